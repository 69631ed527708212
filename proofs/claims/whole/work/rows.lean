section
-- ===== PART A: goes FIRST, ahead of the names: the tables' words, and 'selects' of the private methods out of them =====
/-- a private method of a class that the tables say can be made, by its rows of tables_1 -/
def lw_okq (q : MethodName × Nat) : Prop := (q.1.cls ≠ "java/lang/invoke/MethodHandle" ∧ q.1.cls ≠ "java/lang/invoke/VarHandle") ∧ Cond.instantiable q.1.cls q.2 ∈ tables_1 ∧ Cond.privateMethod q.1 ∈ tables_1 ∧ Cond.instanceMethod q.1 ∈ tables_1
theorem lw_p0 : lw_okq (⟨"LockedAtDusk$Reader", "readClause", "()Z"⟩, 4) := ⟨⟨by decide +kernel, by decide +kernel⟩, List.mem_of_getElem? (i := 217) (by decide +kernel), List.mem_of_getElem? (i := 459) (by decide +kernel), List.mem_of_getElem? (i := 460) (by decide +kernel)⟩
theorem lw_p1 : lw_okq (⟨"LockedAtDusk$Reader", "isNext", "(C)Z"⟩, 4) := ⟨⟨by decide +kernel, by decide +kernel⟩, List.mem_of_getElem? (i := 217) (by decide +kernel), List.mem_of_getElem? (i := 463) (by decide +kernel), List.mem_of_getElem? (i := 464) (by decide +kernel)⟩
theorem lw_p2 : lw_okq (⟨"LockedAtDusk$Reader", "readWord", "(Ljava/lang/String;)Z"⟩, 4) := ⟨⟨by decide +kernel, by decide +kernel⟩, List.mem_of_getElem? (i := 217) (by decide +kernel), List.mem_of_getElem? (i := 471) (by decide +kernel), List.mem_of_getElem? (i := 472) (by decide +kernel)⟩
theorem lw_p3 : lw_okq (⟨"LockedAtDusk$Reader", "skip", "(C)Z"⟩, 4) := ⟨⟨by decide +kernel, by decide +kernel⟩, List.mem_of_getElem? (i := 217) (by decide +kernel), List.mem_of_getElem? (i := 523) (by decide +kernel), List.mem_of_getElem? (i := 524) (by decide +kernel)⟩
theorem lw_p4 : lw_okq (⟨"LockedAtDusk$Reader", "readNumber", "()I"⟩, 4) := ⟨⟨by decide +kernel, by decide +kernel⟩, List.mem_of_getElem? (i := 217) (by decide +kernel), List.mem_of_getElem? (i := 527) (by decide +kernel), List.mem_of_getElem? (i := 528) (by decide +kernel)⟩
theorem lw_p5 : lw_okq (⟨"LockedAtDusk$Reader", "readEither", "(I)Z"⟩, 4) := ⟨⟨by decide +kernel, by decide +kernel⟩, List.mem_of_getElem? (i := 217) (by decide +kernel), List.mem_of_getElem? (i := 535) (by decide +kernel), List.mem_of_getElem? (i := 536) (by decide +kernel)⟩
theorem lw_p6 : lw_okq (⟨"LockedAtDusk$Reader", "readBoth", "(I)Z"⟩, 4) := ⟨⟨by decide +kernel, by decide +kernel⟩, List.mem_of_getElem? (i := 217) (by decide +kernel), List.mem_of_getElem? (i := 539) (by decide +kernel), List.mem_of_getElem? (i := 540) (by decide +kernel)⟩
theorem lw_p7 : lw_okq (⟨"LockedAtDusk$Reader", "readPart", "(I)Z"⟩, 4) := ⟨⟨by decide +kernel, by decide +kernel⟩, List.mem_of_getElem? (i := 217) (by decide +kernel), List.mem_of_getElem? (i := 543) (by decide +kernel), List.mem_of_getElem? (i := 544) (by decide +kernel)⟩
theorem lw_p8 : lw_okq (⟨"LockedAtDusk$Reader", "readTest", "()Z"⟩, 4) := ⟨⟨by decide +kernel, by decide +kernel⟩, List.mem_of_getElem? (i := 217) (by decide +kernel), List.mem_of_getElem? (i := 547) (by decide +kernel), List.mem_of_getElem? (i := 548) (by decide +kernel)⟩
theorem lw_p9 : lw_okq (⟨"LockedAtDusk$Reader", "readOneOf", "(Ljava/lang/String;)I"⟩, 4) := ⟨⟨by decide +kernel, by decide +kernel⟩, List.mem_of_getElem? (i := 217) (by decide +kernel), List.mem_of_getElem? (i := 552) (by decide +kernel), List.mem_of_getElem? (i := 553) (by decide +kernel)⟩
theorem lw_p10 : lw_okq (⟨"LockedAtDusk$Reader", "readBehindNot", "(I)Z"⟩, 4) := ⟨⟨by decide +kernel, by decide +kernel⟩, List.mem_of_getElem? (i := 217) (by decide +kernel), List.mem_of_getElem? (i := 616) (by decide +kernel), List.mem_of_getElem? (i := 617) (by decide +kernel)⟩
theorem lw_p11 : lw_okq (⟨"LockedAtDusk$Park", "walk", "(LLockedAtDusk$Person;)V"⟩, 15) := ⟨⟨by decide +kernel, by decide +kernel⟩, List.mem_of_getElem? (i := 28) (by decide +kernel), List.mem_of_getElem? (i := 641) (by decide +kernel), List.mem_of_getElem? (i := 642) (by decide +kernel)⟩
theorem lw_p12 : lw_okq (⟨"LockedAtDusk$Park", "goRound", "()V"⟩, 15) := ⟨⟨by decide +kernel, by decide +kernel⟩, List.mem_of_getElem? (i := 28) (by decide +kernel), List.mem_of_getElem? (i := 652) (by decide +kernel), List.mem_of_getElem? (i := 653) (by decide +kernel)⟩
theorem lw_p13 : lw_okq (⟨"LockedAtDusk", "bestChange", "(II)I"⟩, 11) := ⟨⟨by decide +kernel, by decide +kernel⟩, List.mem_of_getElem? (i := 20) (by decide +kernel), List.mem_of_getElem? (i := 696) (by decide +kernel), List.mem_of_getElem? (i := 697) (by decide +kernel)⟩
theorem lw_p14 : lw_okq (⟨"LockedAtDusk", "canChange", "(II)Z"⟩, 11) := ⟨⟨by decide +kernel, by decide +kernel⟩, List.mem_of_getElem? (i := 20) (by decide +kernel), List.mem_of_getElem? (i := 700) (by decide +kernel), List.mem_of_getElem? (i := 701) (by decide +kernel)⟩
theorem lw_p15 : lw_okq (⟨"LockedAtDusk", "makeChange", "(II)V"⟩, 11) := ⟨⟨by decide +kernel, by decide +kernel⟩, List.mem_of_getElem? (i := 20) (by decide +kernel), List.mem_of_getElem? (i := 704) (by decide +kernel), List.mem_of_getElem? (i := 705) (by decide +kernel)⟩
def lw_privs_1 : List (MethodName × Nat) := [(⟨"LockedAtDusk$Reader", "readClause", "()Z"⟩, 4), (⟨"LockedAtDusk$Reader", "isNext", "(C)Z"⟩, 4), (⟨"LockedAtDusk$Reader", "readWord", "(Ljava/lang/String;)Z"⟩, 4), (⟨"LockedAtDusk$Reader", "skip", "(C)Z"⟩, 4), (⟨"LockedAtDusk$Reader", "readNumber", "()I"⟩, 4), (⟨"LockedAtDusk$Reader", "readEither", "(I)Z"⟩, 4), (⟨"LockedAtDusk$Reader", "readBoth", "(I)Z"⟩, 4), (⟨"LockedAtDusk$Reader", "readPart", "(I)Z"⟩, 4), (⟨"LockedAtDusk$Reader", "readTest", "()Z"⟩, 4), (⟨"LockedAtDusk$Reader", "readOneOf", "(Ljava/lang/String;)I"⟩, 4), (⟨"LockedAtDusk$Reader", "readBehindNot", "(I)Z"⟩, 4), (⟨"LockedAtDusk$Park", "walk", "(LLockedAtDusk$Person;)V"⟩, 15), (⟨"LockedAtDusk$Park", "goRound", "()V"⟩, 15), (⟨"LockedAtDusk", "bestChange", "(II)I"⟩, 11), (⟨"LockedAtDusk", "canChange", "(II)Z"⟩, 11), (⟨"LockedAtDusk", "makeChange", "(II)V"⟩, 11)]
theorem lw_r1 : ∀ q ∈ lw_privs_1, lw_okq q := List.forall_mem_cons.mpr ⟨lw_p0, List.forall_mem_cons.mpr ⟨lw_p1, List.forall_mem_cons.mpr ⟨lw_p2, List.forall_mem_cons.mpr ⟨lw_p3, List.forall_mem_cons.mpr ⟨lw_p4, List.forall_mem_cons.mpr ⟨lw_p5, List.forall_mem_cons.mpr ⟨lw_p6, List.forall_mem_cons.mpr ⟨lw_p7, List.forall_mem_cons.mpr ⟨lw_p8, List.forall_mem_cons.mpr ⟨lw_p9, List.forall_mem_cons.mpr ⟨lw_p10, List.forall_mem_cons.mpr ⟨lw_p11, List.forall_mem_cons.mpr ⟨lw_p12, List.forall_mem_cons.mpr ⟨lw_p13, List.forall_mem_cons.mpr ⟨lw_p14, List.forall_mem_cons.mpr ⟨lw_p15, fun _ h => absurd h List.not_mem_nil⟩⟩⟩⟩⟩⟩⟩⟩⟩⟩⟩⟩⟩⟩⟩⟩
theorem lw_p16 : lw_okq (⟨"LockedAtDusk", "trialIsAsSeen", "()Z"⟩, 11) := ⟨⟨by decide +kernel, by decide +kernel⟩, List.mem_of_getElem? (i := 20) (by decide +kernel), List.mem_of_getElem? (i := 747) (by decide +kernel), List.mem_of_getElem? (i := 748) (by decide +kernel)⟩
theorem lw_p17 : lw_okq (⟨"LockedAtDusk$Acts", "run", "(IIII)I"⟩, 5) := ⟨⟨by decide +kernel, by decide +kernel⟩, List.mem_of_getElem? (i := 242) (by decide +kernel), List.mem_of_getElem? (i := 824) (by decide +kernel), List.mem_of_getElem? (i := 825) (by decide +kernel)⟩
theorem lw_p18 : lw_okq (⟨"LockedAtDusk$Acts", "keep", "(I)V"⟩, 5) := ⟨⟨by decide +kernel, by decide +kernel⟩, List.mem_of_getElem? (i := 242) (by decide +kernel), List.mem_of_getElem? (i := 835) (by decide +kernel), List.mem_of_getElem? (i := 836) (by decide +kernel)⟩
theorem lw_p19 : lw_okq (⟨"LockedAtDusk$Acts", "answerOf", "(III)I"⟩, 5) := ⟨⟨by decide +kernel, by decide +kernel⟩, List.mem_of_getElem? (i := 242) (by decide +kernel), List.mem_of_getElem? (i := 839) (by decide +kernel), List.mem_of_getElem? (i := 840) (by decide +kernel)⟩
theorem lw_p20 : lw_okq (⟨"LockedAtDuskModel", "isPlace", "(I)Z"⟩, 93) := ⟨⟨by decide +kernel, by decide +kernel⟩, List.mem_of_getElem? (i := 893) (by decide +kernel), List.mem_of_getElem? (i := 1184) (by decide +kernel), List.mem_of_getElem? (i := 1185) (by decide +kernel)⟩
theorem lw_p21 : lw_okq (⟨"LockedAtDuskModel", "in", "(III)Z"⟩, 93) := ⟨⟨by decide +kernel, by decide +kernel⟩, List.mem_of_getElem? (i := 893) (by decide +kernel), List.mem_of_getElem? (i := 1188) (by decide +kernel), List.mem_of_getElem? (i := 1189) (by decide +kernel)⟩
theorem lw_p22 : lw_okq (⟨"LockedAtDuskModel", "with0", "(IIZ)I"⟩, 93) := ⟨⟨by decide +kernel, by decide +kernel⟩, List.mem_of_getElem? (i := 893) (by decide +kernel), List.mem_of_getElem? (i := 1192) (by decide +kernel), List.mem_of_getElem? (i := 1193) (by decide +kernel)⟩
theorem lw_p23 : lw_okq (⟨"LockedAtDuskModel", "isPerson", "(I)Z"⟩, 93) := ⟨⟨by decide +kernel, by decide +kernel⟩, List.mem_of_getElem? (i := 893) (by decide +kernel), List.mem_of_getElem? (i := 1204) (by decide +kernel), List.mem_of_getElem? (i := 1205) (by decide +kernel)⟩
theorem lw_p24 : lw_okq (⟨"LockedAtDuskModel", "puts", "(II)V"⟩, 93) := ⟨⟨by decide +kernel, by decide +kernel⟩, List.mem_of_getElem? (i := 893) (by decide +kernel), List.mem_of_getElem? (i := 1208) (by decide +kernel), List.mem_of_getElem? (i := 1209) (by decide +kernel)⟩
theorem lw_p25 : lw_okq (⟨"LockedAtDuskModel", "has", "(II)Z"⟩, 93) := ⟨⟨by decide +kernel, by decide +kernel⟩, List.mem_of_getElem? (i := 893) (by decide +kernel), List.mem_of_getElem? (i := 1216) (by decide +kernel), List.mem_of_getElem? (i := 1217) (by decide +kernel)⟩
theorem lw_p26 : lw_okq (⟨"LockedAtDuskModel", "isGate", "(I)Z"⟩, 93) := ⟨⟨by decide +kernel, by decide +kernel⟩, List.mem_of_getElem? (i := 893) (by decide +kernel), List.mem_of_getElem? (i := 1224) (by decide +kernel), List.mem_of_getElem? (i := 1225) (by decide +kernel)⟩
theorem lw_p27 : lw_okq (⟨"LockedAtDuskModel", "goesText", "(I)Z"⟩, 93) := ⟨⟨by decide +kernel, by decide +kernel⟩, List.mem_of_getElem? (i := 893) (by decide +kernel), List.mem_of_getElem? (i := 1244) (by decide +kernel), List.mem_of_getElem? (i := 1245) (by decide +kernel)⟩
theorem lw_p28 : lw_okq (⟨"LockedAtDuskModel", "takesClause", "(I)Z"⟩, 93) := ⟨⟨by decide +kernel, by decide +kernel⟩, List.mem_of_getElem? (i := 893) (by decide +kernel), List.mem_of_getElem? (i := 1248) (by decide +kernel), List.mem_of_getElem? (i := 1249) (by decide +kernel)⟩
theorem lw_p29 : lw_okq (⟨"LockedAtDuskModel", "takesHead", "(I)Z"⟩, 93) := ⟨⟨by decide +kernel, by decide +kernel⟩, List.mem_of_getElem? (i := 893) (by decide +kernel), List.mem_of_getElem? (i := 1252) (by decide +kernel), List.mem_of_getElem? (i := 1253) (by decide +kernel)⟩
theorem lw_p30 : lw_okq (⟨"LockedAtDuskModel", "next", "()I"⟩, 93) := ⟨⟨by decide +kernel, by decide +kernel⟩, List.mem_of_getElem? (i := 893) (by decide +kernel), List.mem_of_getElem? (i := 1256) (by decide +kernel), List.mem_of_getElem? (i := 1257) (by decide +kernel)⟩
theorem lw_p31 : lw_okq (⟨"LockedAtDuskModel", "takesWord", "(II)Z"⟩, 93) := ⟨⟨by decide +kernel, by decide +kernel⟩, List.mem_of_getElem? (i := 893) (by decide +kernel), List.mem_of_getElem? (i := 1260) (by decide +kernel), List.mem_of_getElem? (i := 1261) (by decide +kernel)⟩
def lw_privs_2 : List (MethodName × Nat) := [(⟨"LockedAtDusk", "trialIsAsSeen", "()Z"⟩, 11), (⟨"LockedAtDusk$Acts", "run", "(IIII)I"⟩, 5), (⟨"LockedAtDusk$Acts", "keep", "(I)V"⟩, 5), (⟨"LockedAtDusk$Acts", "answerOf", "(III)I"⟩, 5), (⟨"LockedAtDuskModel", "isPlace", "(I)Z"⟩, 93), (⟨"LockedAtDuskModel", "in", "(III)Z"⟩, 93), (⟨"LockedAtDuskModel", "with0", "(IIZ)I"⟩, 93), (⟨"LockedAtDuskModel", "isPerson", "(I)Z"⟩, 93), (⟨"LockedAtDuskModel", "puts", "(II)V"⟩, 93), (⟨"LockedAtDuskModel", "has", "(II)Z"⟩, 93), (⟨"LockedAtDuskModel", "isGate", "(I)Z"⟩, 93), (⟨"LockedAtDuskModel", "goesText", "(I)Z"⟩, 93), (⟨"LockedAtDuskModel", "takesClause", "(I)Z"⟩, 93), (⟨"LockedAtDuskModel", "takesHead", "(I)Z"⟩, 93), (⟨"LockedAtDuskModel", "next", "()I"⟩, 93), (⟨"LockedAtDuskModel", "takesWord", "(II)Z"⟩, 93)]
theorem lw_r2 : ∀ q ∈ lw_privs_2, lw_okq q := List.forall_mem_cons.mpr ⟨lw_p16, List.forall_mem_cons.mpr ⟨lw_p17, List.forall_mem_cons.mpr ⟨lw_p18, List.forall_mem_cons.mpr ⟨lw_p19, List.forall_mem_cons.mpr ⟨lw_p20, List.forall_mem_cons.mpr ⟨lw_p21, List.forall_mem_cons.mpr ⟨lw_p22, List.forall_mem_cons.mpr ⟨lw_p23, List.forall_mem_cons.mpr ⟨lw_p24, List.forall_mem_cons.mpr ⟨lw_p25, List.forall_mem_cons.mpr ⟨lw_p26, List.forall_mem_cons.mpr ⟨lw_p27, List.forall_mem_cons.mpr ⟨lw_p28, List.forall_mem_cons.mpr ⟨lw_p29, List.forall_mem_cons.mpr ⟨lw_p30, List.forall_mem_cons.mpr ⟨lw_p31, fun _ h => absurd h List.not_mem_nil⟩⟩⟩⟩⟩⟩⟩⟩⟩⟩⟩⟩⟩⟩⟩⟩
theorem lw_p32 : lw_okq (⟨"LockedAtDuskModel", "takes", "(I)Z"⟩, 93) := ⟨⟨by decide +kernel, by decide +kernel⟩, List.mem_of_getElem? (i := 893) (by decide +kernel), List.mem_of_getElem? (i := 1264) (by decide +kernel), List.mem_of_getElem? (i := 1265) (by decide +kernel)⟩
theorem lw_p33 : lw_okq (⟨"LockedAtDuskModel", "takesNumber", "()Z"⟩, 93) := ⟨⟨by decide +kernel, by decide +kernel⟩, List.mem_of_getElem? (i := 893) (by decide +kernel), List.mem_of_getElem? (i := 1268) (by decide +kernel), List.mem_of_getElem? (i := 1269) (by decide +kernel)⟩
theorem lw_p34 : lw_okq (⟨"LockedAtDuskModel", "isDigit", "()Z"⟩, 93) := ⟨⟨by decide +kernel, by decide +kernel⟩, List.mem_of_getElem? (i := 893) (by decide +kernel), List.mem_of_getElem? (i := 1272) (by decide +kernel), List.mem_of_getElem? (i := 1273) (by decide +kernel)⟩
theorem lw_p35 : lw_okq (⟨"LockedAtDuskModel", "takesE", "(I)Z"⟩, 93) := ⟨⟨by decide +kernel, by decide +kernel⟩, List.mem_of_getElem? (i := 893) (by decide +kernel), List.mem_of_getElem? (i := 1276) (by decide +kernel), List.mem_of_getElem? (i := 1277) (by decide +kernel)⟩
theorem lw_p36 : lw_okq (⟨"LockedAtDuskModel", "takesTest", "()Z"⟩, 93) := ⟨⟨by decide +kernel, by decide +kernel⟩, List.mem_of_getElem? (i := 893) (by decide +kernel), List.mem_of_getElem? (i := 1280) (by decide +kernel), List.mem_of_getElem? (i := 1281) (by decide +kernel)⟩
theorem lw_p37 : lw_okq (⟨"LockedAtDuskModel", "place", "(I)I"⟩, 93) := ⟨⟨by decide +kernel, by decide +kernel⟩, List.mem_of_getElem? (i := 893) (by decide +kernel), List.mem_of_getElem? (i := 1284) (by decide +kernel), List.mem_of_getElem? (i := 1285) (by decide +kernel)⟩
theorem lw_p38 : lw_okq (⟨"LockedAtDuskModel", "emits", "(I)V"⟩, 93) := ⟨⟨by decide +kernel, by decide +kernel⟩, List.mem_of_getElem? (i := 893) (by decide +kernel), List.mem_of_getElem? (i := 1288) (by decide +kernel), List.mem_of_getElem? (i := 1289) (by decide +kernel)⟩
theorem lw_p39 : lw_okq (⟨"LockedAtDuskModel", "whole", "()V"⟩, 93) := ⟨⟨by decide +kernel, by decide +kernel⟩, List.mem_of_getElem? (i := 893) (by decide +kernel), List.mem_of_getElem? (i := 1292) (by decide +kernel), List.mem_of_getElem? (i := 1293) (by decide +kernel)⟩
theorem lw_p40 : lw_okq (⟨"LockedAtDuskModel", "settle", "(I)V"⟩, 93) := ⟨⟨by decide +kernel, by decide +kernel⟩, List.mem_of_getElem? (i := 893) (by decide +kernel), List.mem_of_getElem? (i := 1296) (by decide +kernel), List.mem_of_getElem? (i := 1297) (by decide +kernel)⟩
theorem lw_p41 : lw_okq (⟨"LockedAtDuskModel", "ears", "(I)I"⟩, 93) := ⟨⟨by decide +kernel, by decide +kernel⟩, List.mem_of_getElem? (i := 893) (by decide +kernel), List.mem_of_getElem? (i := 1304) (by decide +kernel), List.mem_of_getElem? (i := 1305) (by decide +kernel)⟩
theorem lw_p42 : lw_okq (⟨"LockedAtDuskModel", "begin", "()I"⟩, 93) := ⟨⟨by decide +kernel, by decide +kernel⟩, List.mem_of_getElem? (i := 893) (by decide +kernel), List.mem_of_getElem? (i := 1308) (by decide +kernel), List.mem_of_getElem? (i := 1309) (by decide +kernel)⟩
theorem lw_p43 : lw_okq (⟨"LockedAtDuskModel", "behind", "()I"⟩, 93) := ⟨⟨by decide +kernel, by decide +kernel⟩, List.mem_of_getElem? (i := 893) (by decide +kernel), List.mem_of_getElem? (i := 1312) (by decide +kernel), List.mem_of_getElem? (i := 1313) (by decide +kernel)⟩
theorem lw_p44 : lw_okq (⟨"LockedAtDuskModel", "holds", "(II)Z"⟩, 93) := ⟨⟨by decide +kernel, by decide +kernel⟩, List.mem_of_getElem? (i := 893) (by decide +kernel), List.mem_of_getElem? (i := 1316) (by decide +kernel), List.mem_of_getElem? (i := 1317) (by decide +kernel)⟩
theorem lw_p45 : lw_okq (⟨"LockedAtDuskModel", "factOf", "(II)I"⟩, 93) := ⟨⟨by decide +kernel, by decide +kernel⟩, List.mem_of_getElem? (i := 893) (by decide +kernel), List.mem_of_getElem? (i := 1320) (by decide +kernel), List.mem_of_getElem? (i := 1321) (by decide +kernel)⟩
theorem lw_p46 : lw_okq (⟨"LockedAtDuskModel", "ones", "(I)I"⟩, 93) := ⟨⟨by decide +kernel, by decide +kernel⟩, List.mem_of_getElem? (i := 893) (by decide +kernel), List.mem_of_getElem? (i := 1324) (by decide +kernel), List.mem_of_getElem? (i := 1325) (by decide +kernel)⟩
theorem lw_p47 : lw_okq (⟨"LockedAtDuskModel", "hears", "(I)Z"⟩, 93) := ⟨⟨by decide +kernel, by decide +kernel⟩, List.mem_of_getElem? (i := 893) (by decide +kernel), List.mem_of_getElem? (i := 1328) (by decide +kernel), List.mem_of_getElem? (i := 1329) (by decide +kernel)⟩
def lw_privs_3 : List (MethodName × Nat) := [(⟨"LockedAtDuskModel", "takes", "(I)Z"⟩, 93), (⟨"LockedAtDuskModel", "takesNumber", "()Z"⟩, 93), (⟨"LockedAtDuskModel", "isDigit", "()Z"⟩, 93), (⟨"LockedAtDuskModel", "takesE", "(I)Z"⟩, 93), (⟨"LockedAtDuskModel", "takesTest", "()Z"⟩, 93), (⟨"LockedAtDuskModel", "place", "(I)I"⟩, 93), (⟨"LockedAtDuskModel", "emits", "(I)V"⟩, 93), (⟨"LockedAtDuskModel", "whole", "()V"⟩, 93), (⟨"LockedAtDuskModel", "settle", "(I)V"⟩, 93), (⟨"LockedAtDuskModel", "ears", "(I)I"⟩, 93), (⟨"LockedAtDuskModel", "begin", "()I"⟩, 93), (⟨"LockedAtDuskModel", "behind", "()I"⟩, 93), (⟨"LockedAtDuskModel", "holds", "(II)Z"⟩, 93), (⟨"LockedAtDuskModel", "factOf", "(II)I"⟩, 93), (⟨"LockedAtDuskModel", "ones", "(I)I"⟩, 93), (⟨"LockedAtDuskModel", "hears", "(I)Z"⟩, 93)]
theorem lw_r3 : ∀ q ∈ lw_privs_3, lw_okq q := List.forall_mem_cons.mpr ⟨lw_p32, List.forall_mem_cons.mpr ⟨lw_p33, List.forall_mem_cons.mpr ⟨lw_p34, List.forall_mem_cons.mpr ⟨lw_p35, List.forall_mem_cons.mpr ⟨lw_p36, List.forall_mem_cons.mpr ⟨lw_p37, List.forall_mem_cons.mpr ⟨lw_p38, List.forall_mem_cons.mpr ⟨lw_p39, List.forall_mem_cons.mpr ⟨lw_p40, List.forall_mem_cons.mpr ⟨lw_p41, List.forall_mem_cons.mpr ⟨lw_p42, List.forall_mem_cons.mpr ⟨lw_p43, List.forall_mem_cons.mpr ⟨lw_p44, List.forall_mem_cons.mpr ⟨lw_p45, List.forall_mem_cons.mpr ⟨lw_p46, List.forall_mem_cons.mpr ⟨lw_p47, fun _ h => absurd h List.not_mem_nil⟩⟩⟩⟩⟩⟩⟩⟩⟩⟩⟩⟩⟩⟩⟩⟩
theorem lw_p48 : lw_okq (⟨"LockedAtDuskModel", "way", "(II)I"⟩, 93) := ⟨⟨by decide +kernel, by decide +kernel⟩, List.mem_of_getElem? (i := 893) (by decide +kernel), List.mem_of_getElem? (i := 1332) (by decide +kernel), List.mem_of_getElem? (i := 1333) (by decide +kernel)⟩
theorem lw_p49 : lw_okq (⟨"LockedAtDuskModel", "up", "(II)I"⟩, 93) := ⟨⟨by decide +kernel, by decide +kernel⟩, List.mem_of_getElem? (i := 893) (by decide +kernel), List.mem_of_getElem? (i := 1336) (by decide +kernel), List.mem_of_getElem? (i := 1337) (by decide +kernel)⟩
theorem lw_p50 : lw_okq (⟨"LockedAtDuskModel", "lastOf", "(II)I"⟩, 93) := ⟨⟨by decide +kernel, by decide +kernel⟩, List.mem_of_getElem? (i := 893) (by decide +kernel), List.mem_of_getElem? (i := 1340) (by decide +kernel), List.mem_of_getElem? (i := 1341) (by decide +kernel)⟩
theorem lw_p51 : lw_okq (⟨"LockedAtDuskModel", "steps", "(I)I"⟩, 93) := ⟨⟨by decide +kernel, by decide +kernel⟩, List.mem_of_getElem? (i := 893) (by decide +kernel), List.mem_of_getElem? (i := 1344) (by decide +kernel), List.mem_of_getElem? (i := 1345) (by decide +kernel)⟩
theorem lw_p52 : lw_okq (⟨"LockedAtDuskModel", "goal", "(I)I"⟩, 93) := ⟨⟨by decide +kernel, by decide +kernel⟩, List.mem_of_getElem? (i := 893) (by decide +kernel), List.mem_of_getElem? (i := 1348) (by decide +kernel), List.mem_of_getElem? (i := 1349) (by decide +kernel)⟩
theorem lw_p53 : lw_okq (⟨"LockedAtDuskModel", "pace", "()I"⟩, 93) := ⟨⟨by decide +kernel, by decide +kernel⟩, List.mem_of_getElem? (i := 893) (by decide +kernel), List.mem_of_getElem? (i := 1356) (by decide +kernel), List.mem_of_getElem? (i := 1357) (by decide +kernel)⟩
theorem lw_p54 : lw_okq (⟨"LockedAtDuskModel", "goMinutes", "(I)V"⟩, 93) := ⟨⟨by decide +kernel, by decide +kernel⟩, List.mem_of_getElem? (i := 893) (by decide +kernel), List.mem_of_getElem? (i := 1364) (by decide +kernel), List.mem_of_getElem? (i := 1365) (by decide +kernel)⟩
theorem lw_p55 : lw_okq (⟨"LockedAtDuskModel", "goMinute", "()V"⟩, 93) := ⟨⟨by decide +kernel, by decide +kernel⟩, List.mem_of_getElem? (i := 893) (by decide +kernel), List.mem_of_getElem? (i := 1368) (by decide +kernel), List.mem_of_getElem? (i := 1369) (by decide +kernel)⟩
theorem lw_p56 : lw_okq (⟨"LockedAtDuskModel", "goPerson", "(I)V"⟩, 93) := ⟨⟨by decide +kernel, by decide +kernel⟩, List.mem_of_getElem? (i := 893) (by decide +kernel), List.mem_of_getElem? (i := 1372) (by decide +kernel), List.mem_of_getElem? (i := 1373) (by decide +kernel)⟩
theorem lw_p57 : lw_okq (⟨"LockedAtDuskModel", "toward", "(III)I"⟩, 93) := ⟨⟨by decide +kernel, by decide +kernel⟩, List.mem_of_getElem? (i := 893) (by decide +kernel), List.mem_of_getElem? (i := 1376) (by decide +kernel), List.mem_of_getElem? (i := 1377) (by decide +kernel)⟩
theorem lw_p58 : lw_okq (⟨"LockedAtDuskModel", "goKeeper", "()V"⟩, 93) := ⟨⟨by decide +kernel, by decide +kernel⟩, List.mem_of_getElem? (i := 893) (by decide +kernel), List.mem_of_getElem? (i := 1380) (by decide +kernel), List.mem_of_getElem? (i := 1381) (by decide +kernel)⟩
theorem lw_p59 : lw_okq (⟨"LockedAtDuskModel", "isMinutes", "(I)Z"⟩, 93) := ⟨⟨by decide +kernel, by decide +kernel⟩, List.mem_of_getElem? (i := 893) (by decide +kernel), List.mem_of_getElem? (i := 1388) (by decide +kernel), List.mem_of_getElem? (i := 1389) (by decide +kernel)⟩
theorem lw_p60 : lw_okq (⟨"LockedAtDuskModel", "save", "()V"⟩, 93) := ⟨⟨by decide +kernel, by decide +kernel⟩, List.mem_of_getElem? (i := 893) (by decide +kernel), List.mem_of_getElem? (i := 1392) (by decide +kernel), List.mem_of_getElem? (i := 1393) (by decide +kernel)⟩
theorem lw_p61 : lw_okq (⟨"LockedAtDuskModel", "putBack", "()V"⟩, 93) := ⟨⟨by decide +kernel, by decide +kernel⟩, List.mem_of_getElem? (i := 893) (by decide +kernel), List.mem_of_getElem? (i := 1396) (by decide +kernel), List.mem_of_getElem? (i := 1397) (by decide +kernel)⟩
theorem lw_p62 : lw_okq (⟨"LockedAtDuskModel", "all", "()I"⟩, 93) := ⟨⟨by decide +kernel, by decide +kernel⟩, List.mem_of_getElem? (i := 893) (by decide +kernel), List.mem_of_getElem? (i := 1404) (by decide +kernel), List.mem_of_getElem? (i := 1405) (by decide +kernel)⟩
theorem lw_p63 : lw_okq (⟨"LockedAtDuskModel", "firstOf", "()I"⟩, 93) := ⟨⟨by decide +kernel, by decide +kernel⟩, List.mem_of_getElem? (i := 893) (by decide +kernel), List.mem_of_getElem? (i := 1417) (by decide +kernel), List.mem_of_getElem? (i := 1418) (by decide +kernel)⟩
def lw_privs_4 : List (MethodName × Nat) := [(⟨"LockedAtDuskModel", "way", "(II)I"⟩, 93), (⟨"LockedAtDuskModel", "up", "(II)I"⟩, 93), (⟨"LockedAtDuskModel", "lastOf", "(II)I"⟩, 93), (⟨"LockedAtDuskModel", "steps", "(I)I"⟩, 93), (⟨"LockedAtDuskModel", "goal", "(I)I"⟩, 93), (⟨"LockedAtDuskModel", "pace", "()I"⟩, 93), (⟨"LockedAtDuskModel", "goMinutes", "(I)V"⟩, 93), (⟨"LockedAtDuskModel", "goMinute", "()V"⟩, 93), (⟨"LockedAtDuskModel", "goPerson", "(I)V"⟩, 93), (⟨"LockedAtDuskModel", "toward", "(III)I"⟩, 93), (⟨"LockedAtDuskModel", "goKeeper", "()V"⟩, 93), (⟨"LockedAtDuskModel", "isMinutes", "(I)Z"⟩, 93), (⟨"LockedAtDuskModel", "save", "()V"⟩, 93), (⟨"LockedAtDuskModel", "putBack", "()V"⟩, 93), (⟨"LockedAtDuskModel", "all", "()I"⟩, 93), (⟨"LockedAtDuskModel", "firstOf", "()I"⟩, 93)]
theorem lw_r4 : ∀ q ∈ lw_privs_4, lw_okq q := List.forall_mem_cons.mpr ⟨lw_p48, List.forall_mem_cons.mpr ⟨lw_p49, List.forall_mem_cons.mpr ⟨lw_p50, List.forall_mem_cons.mpr ⟨lw_p51, List.forall_mem_cons.mpr ⟨lw_p52, List.forall_mem_cons.mpr ⟨lw_p53, List.forall_mem_cons.mpr ⟨lw_p54, List.forall_mem_cons.mpr ⟨lw_p55, List.forall_mem_cons.mpr ⟨lw_p56, List.forall_mem_cons.mpr ⟨lw_p57, List.forall_mem_cons.mpr ⟨lw_p58, List.forall_mem_cons.mpr ⟨lw_p59, List.forall_mem_cons.mpr ⟨lw_p60, List.forall_mem_cons.mpr ⟨lw_p61, List.forall_mem_cons.mpr ⟨lw_p62, List.forall_mem_cons.mpr ⟨lw_p63, fun _ h => absurd h List.not_mem_nil⟩⟩⟩⟩⟩⟩⟩⟩⟩⟩⟩⟩⟩⟩⟩⟩
theorem lw_p64 : lw_okq (⟨"LockedAtDuskModel", "leftThen", "()I"⟩, 93) := ⟨⟨by decide +kernel, by decide +kernel⟩, List.mem_of_getElem? (i := 893) (by decide +kernel), List.mem_of_getElem? (i := 1421) (by decide +kernel), List.mem_of_getElem? (i := 1422) (by decide +kernel)⟩
theorem lw_p65 : lw_okq (⟨"LockedAtDuskModel", "swapOf", "()I"⟩, 93) := ⟨⟨by decide +kernel, by decide +kernel⟩, List.mem_of_getElem? (i := 893) (by decide +kernel), List.mem_of_getElem? (i := 1425) (by decide +kernel), List.mem_of_getElem? (i := 1426) (by decide +kernel)⟩
theorem lw_p66 : lw_okq (⟨"LockedAtDuskModel", "left", "()I"⟩, 93) := ⟨⟨by decide +kernel, by decide +kernel⟩, List.mem_of_getElem? (i := 893) (by decide +kernel), List.mem_of_getElem? (i := 1429) (by decide +kernel), List.mem_of_getElem? (i := 1430) (by decide +kernel)⟩
theorem lw_p67 : lw_okq (⟨"LockedAtDuskModel", "quickOf", "()I"⟩, 93) := ⟨⟨by decide +kernel, by decide +kernel⟩, List.mem_of_getElem? (i := 893) (by decide +kernel), List.mem_of_getElem? (i := 1433) (by decide +kernel), List.mem_of_getElem? (i := 1434) (by decide +kernel)⟩
theorem lw_p68 : lw_okq (⟨"LockedAtDuskModel", "waitOf", "()I"⟩, 93) := ⟨⟨by decide +kernel, by decide +kernel⟩, List.mem_of_getElem? (i := 893) (by decide +kernel), List.mem_of_getElem? (i := 1437) (by decide +kernel), List.mem_of_getElem? (i := 1438) (by decide +kernel)⟩
theorem lw_p69 : lw_okq (⟨"LockedAtDuskModel", "openOf", "()I"⟩, 93) := ⟨⟨by decide +kernel, by decide +kernel⟩, List.mem_of_getElem? (i := 893) (by decide +kernel), List.mem_of_getElem? (i := 1441) (by decide +kernel), List.mem_of_getElem? (i := 1442) (by decide +kernel)⟩
theorem lw_p70 : lw_okq (⟨"LockedAtDuskModel", "isSeen", "(II)Z"⟩, 93) := ⟨⟨by decide +kernel, by decide +kernel⟩, List.mem_of_getElem? (i := 893) (by decide +kernel), List.mem_of_getElem? (i := 1457) (by decide +kernel), List.mem_of_getElem? (i := 1458) (by decide +kernel)⟩
theorem lw_p71 : lw_okq (⟨"LockedAtDuskModel", "lowest", "(III)J"⟩, 93) := ⟨⟨by decide +kernel, by decide +kernel⟩, List.mem_of_getElem? (i := 893) (by decide +kernel), List.mem_of_getElem? (i := 1470) (by decide +kernel), List.mem_of_getElem? (i := 1471) (by decide +kernel)⟩
theorem lw_p72 : lw_okq (⟨"LockedAtDuskModel", "divisor", "(II)I"⟩, 93) := ⟨⟨by decide +kernel, by decide +kernel⟩, List.mem_of_getElem? (i := 893) (by decide +kernel), List.mem_of_getElem? (i := 1474) (by decide +kernel), List.mem_of_getElem? (i := 1475) (by decide +kernel)⟩
theorem lw_p73 : lw_okq (⟨"LockedAtDuskModel", "isTape", "(I)Z"⟩, 93) := ⟨⟨by decide +kernel, by decide +kernel⟩, List.mem_of_getElem? (i := 893) (by decide +kernel), List.mem_of_getElem? (i := 1502) (by decide +kernel), List.mem_of_getElem? (i := 1503) (by decide +kernel)⟩
theorem lw_p74 : lw_okq (⟨"LockedAtDuskModel", "waitsAct", "(II)I"⟩, 93) := ⟨⟨by decide +kernel, by decide +kernel⟩, List.mem_of_getElem? (i := 893) (by decide +kernel), List.mem_of_getElem? (i := 1518) (by decide +kernel), List.mem_of_getElem? (i := 1519) (by decide +kernel)⟩
theorem lw_p75 : lw_okq (⟨"LockedAtDuskModel", "body", "(I)V"⟩, 93) := ⟨⟨by decide +kernel, by decide +kernel⟩, List.mem_of_getElem? (i := 893) (by decide +kernel), List.mem_of_getElem? (i := 1522) (by decide +kernel), List.mem_of_getElem? (i := 1523) (by decide +kernel)⟩
theorem lw_p76 : lw_okq (⟨"LockedAtDuskModel", "personWaits", "(II)I"⟩, 93) := ⟨⟨by decide +kernel, by decide +kernel⟩, List.mem_of_getElem? (i := 893) (by decide +kernel), List.mem_of_getElem? (i := 1526) (by decide +kernel), List.mem_of_getElem? (i := 1527) (by decide +kernel)⟩
theorem lw_p77 : lw_okq (⟨"LockedAtDuskModel", "walksAct", "(II)I"⟩, 93) := ⟨⟨by decide +kernel, by decide +kernel⟩, List.mem_of_getElem? (i := 893) (by decide +kernel), List.mem_of_getElem? (i := 1530) (by decide +kernel), List.mem_of_getElem? (i := 1531) (by decide +kernel)⟩
theorem lw_p78 : lw_okq (⟨"LockedAtDuskModel", "oldWalks", "(II)I"⟩, 93) := ⟨⟨by decide +kernel, by decide +kernel⟩, List.mem_of_getElem? (i := 893) (by decide +kernel), List.mem_of_getElem? (i := 1534) (by decide +kernel), List.mem_of_getElem? (i := 1535) (by decide +kernel)⟩
theorem lw_p79 : lw_okq (⟨"LockedAtDuskModel", "personWalks", "(II)I"⟩, 93) := ⟨⟨by decide +kernel, by decide +kernel⟩, List.mem_of_getElem? (i := 893) (by decide +kernel), List.mem_of_getElem? (i := 1538) (by decide +kernel), List.mem_of_getElem? (i := 1539) (by decide +kernel)⟩
def lw_privs_5 : List (MethodName × Nat) := [(⟨"LockedAtDuskModel", "leftThen", "()I"⟩, 93), (⟨"LockedAtDuskModel", "swapOf", "()I"⟩, 93), (⟨"LockedAtDuskModel", "left", "()I"⟩, 93), (⟨"LockedAtDuskModel", "quickOf", "()I"⟩, 93), (⟨"LockedAtDuskModel", "waitOf", "()I"⟩, 93), (⟨"LockedAtDuskModel", "openOf", "()I"⟩, 93), (⟨"LockedAtDuskModel", "isSeen", "(II)Z"⟩, 93), (⟨"LockedAtDuskModel", "lowest", "(III)J"⟩, 93), (⟨"LockedAtDuskModel", "divisor", "(II)I"⟩, 93), (⟨"LockedAtDuskModel", "isTape", "(I)Z"⟩, 93), (⟨"LockedAtDuskModel", "waitsAct", "(II)I"⟩, 93), (⟨"LockedAtDuskModel", "body", "(I)V"⟩, 93), (⟨"LockedAtDuskModel", "personWaits", "(II)I"⟩, 93), (⟨"LockedAtDuskModel", "walksAct", "(II)I"⟩, 93), (⟨"LockedAtDuskModel", "oldWalks", "(II)I"⟩, 93), (⟨"LockedAtDuskModel", "personWalks", "(II)I"⟩, 93)]
theorem lw_r5 : ∀ q ∈ lw_privs_5, lw_okq q := List.forall_mem_cons.mpr ⟨lw_p64, List.forall_mem_cons.mpr ⟨lw_p65, List.forall_mem_cons.mpr ⟨lw_p66, List.forall_mem_cons.mpr ⟨lw_p67, List.forall_mem_cons.mpr ⟨lw_p68, List.forall_mem_cons.mpr ⟨lw_p69, List.forall_mem_cons.mpr ⟨lw_p70, List.forall_mem_cons.mpr ⟨lw_p71, List.forall_mem_cons.mpr ⟨lw_p72, List.forall_mem_cons.mpr ⟨lw_p73, List.forall_mem_cons.mpr ⟨lw_p74, List.forall_mem_cons.mpr ⟨lw_p75, List.forall_mem_cons.mpr ⟨lw_p76, List.forall_mem_cons.mpr ⟨lw_p77, List.forall_mem_cons.mpr ⟨lw_p78, List.forall_mem_cons.mpr ⟨lw_p79, fun _ h => absurd h List.not_mem_nil⟩⟩⟩⟩⟩⟩⟩⟩⟩⟩⟩⟩⟩⟩⟩⟩
theorem lw_p80 : lw_okq (⟨"LockedAtDuskModel", "tellsAct", "(II)I"⟩, 93) := ⟨⟨by decide +kernel, by decide +kernel⟩, List.mem_of_getElem? (i := 893) (by decide +kernel), List.mem_of_getElem? (i := 1542) (by decide +kernel), List.mem_of_getElem? (i := 1543) (by decide +kernel)⟩
theorem lw_p81 : lw_okq (⟨"LockedAtDuskModel", "personTells", "(II)I"⟩, 93) := ⟨⟨by decide +kernel, by decide +kernel⟩, List.mem_of_getElem? (i := 893) (by decide +kernel), List.mem_of_getElem? (i := 1546) (by decide +kernel), List.mem_of_getElem? (i := 1547) (by decide +kernel)⟩
theorem lw_p82 : lw_okq (⟨"LockedAtDuskModel", "narrow", "(IJ)J"⟩, 93) := ⟨⟨by decide +kernel, by decide +kernel⟩, List.mem_of_getElem? (i := 893) (by decide +kernel), List.mem_of_getElem? (i := 1570) (by decide +kernel), List.mem_of_getElem? (i := 1571) (by decide +kernel)⟩
def lw_privs_6 : List (MethodName × Nat) := [(⟨"LockedAtDuskModel", "tellsAct", "(II)I"⟩, 93), (⟨"LockedAtDuskModel", "personTells", "(II)I"⟩, 93), (⟨"LockedAtDuskModel", "narrow", "(IJ)J"⟩, 93)]
theorem lw_r6 : ∀ q ∈ lw_privs_6, lw_okq q := List.forall_mem_cons.mpr ⟨lw_p80, List.forall_mem_cons.mpr ⟨lw_p81, List.forall_mem_cons.mpr ⟨lw_p82, fun _ h => absurd h List.not_mem_nil⟩⟩⟩
def lw_privs : List (MethodName × Nat) := lw_privs_1 ++ (lw_privs_2 ++ (lw_privs_3 ++ (lw_privs_4 ++ (lw_privs_5 ++ (lw_privs_6)))))
def lw_tbl : List Cond := k2_sels lw_privs ++ tables_1
theorem lw_privs_ok : ∀ q ∈ lw_privs, lw_okq q := by
  show ∀ q ∈ lw_privs_1 ++ (lw_privs_2 ++ (lw_privs_3 ++ (lw_privs_4 ++ (lw_privs_5 ++ (lw_privs_6))))), lw_okq q
  exact List.forall_mem_append.mpr ⟨lw_r1, List.forall_mem_append.mpr ⟨lw_r2, List.forall_mem_append.mpr ⟨lw_r3, List.forall_mem_append.mpr ⟨lw_r4, List.forall_mem_append.mpr ⟨lw_r5, lw_r6⟩⟩⟩⟩⟩

/-! ===== END ===== -/
/-! ===== BEGIN printed: names, fields, word lists, decode rows ===== -/
def RX0 : String := "LockedAtDusk$Acts"
def TX0 : u_T := fun k => match k with
  | 0 => ("LockedAtDusk$Acts", "trace", "[I", true)
  | 1 => ("LockedAtDusk$Acts", "ran", "I", false)
  | 2 => ("LockedAtDusk$Acts", "kind", "I", false)
  | 3 => ("LockedAtDusk$Acts", "number", "I", false)
  | _ => ("LockedAtDusk$Acts", "v", "I", false)
def tyX0 : Nat → FieldType := fun k => match k with
  | 0 => .array .int
  | 1 => .int
  | 2 => .int
  | 3 => .int
  | _ => .int
theorem nmX0 : ∀ a, a < 5 → ∀ b, b < 5 → a ≠ b → (TX0 a).2.1 ≠ (TX0 b).2.1 := by decide +kernel
theorem tyX0_ok : ∀ k, k < 5 → parseFieldDescriptor (TX0 k).2.2.1 = some (tyX0 k) := by decide +kernel
abbrev cX0_init : ByteArray := prog_2_method_1_code
def yX0_init : MethodName := ⟨RX0, "<init>", "()V"⟩
abbrev cX0_begin : ByteArray := prog_2_method_2_code
def yX0_begin : MethodName := ⟨RX0, "begin", "(ILLockedAtDusk$Person;II)I"⟩
abbrev cX0_run : ByteArray := prog_2_method_3_code
def yX0_run : MethodName := ⟨RX0, "run", "(IIII)I"⟩
abbrev cX0_answerOf : ByteArray := prog_2_method_4_code
def yX0_answerOf : MethodName := ⟨RX0, "answerOf", "(III)I"⟩
abbrev cX0_bodyOf : ByteArray := prog_2_method_5_code
def yX0_bodyOf : MethodName := ⟨RX0, "bodyOf", "(II)I"⟩
abbrev cX0_keep : ByteArray := prog_2_method_6_code
def yX0_keep : MethodName := ⟨RX0, "keep", "(I)V"⟩
def RX1 : String := "LockedAtDusk$Dusk"
def TX1 : u_T := fun k => match k with
  | 0 => ("LockedAtDusk$Dusk", "codes", "[I", true)
  | 1 => ("LockedAtDusk$Dusk", "size", "I", false)
  | 2 => ("LockedAtDusk$Dusk", "bell", "I", false)
  | _ => ("LockedAtDusk$Dusk", "pace", "I", false)
def tyX1 : Nat → FieldType := fun k => match k with
  | 0 => .array .int
  | 1 => .int
  | 2 => .int
  | _ => .int
theorem nmX1 : ∀ a, a < 4 → ∀ b, b < 4 → a ≠ b → (TX1 a).2.1 ≠ (TX1 b).2.1 := by decide +kernel
theorem tyX1_ok : ∀ k, k < 4 → parseFieldDescriptor (TX1 k).2.2.1 = some (tyX1 k) := by decide +kernel
abbrev cX1_init : ByteArray := prog_3_method_1_code
def yX1_init : MethodName := ⟨RX1, "<init>", "()V"⟩
abbrev cX1_empty : ByteArray := prog_3_method_2_code
def yX1_empty : MethodName := ⟨RX1, "empty", "()V"⟩
abbrev cX1_addCode : ByteArray := prog_3_method_3_code
def yX1_addCode : MethodName := ⟨RX1, "addCode", "(I)V"⟩
abbrev cX1_earsBy : ByteArray := prog_3_method_4_code
def yX1_earsBy : MethodName := ⟨RX1, "earsBy", "([I)I"⟩
abbrev cX1_testHolds : ByteArray := prog_3_method_5_code
def yX1_testHolds : MethodName := ⟨RX1, "testHolds", "(I[I)Z"⟩
def RX2 : String := "LockedAtDusk$Image"
def TX2 : u_T := fun k => match k with
  | 0 => ("LockedAtDusk$Image", "park", "LLockedAtDusk$Park;", true)
  | 1 => ("LockedAtDusk$Image", "seen", "LLockedAtDusk$Rows;", true)
  | 2 => ("LockedAtDusk$Image", "evening", "LLockedAtDusk$Rows;", true)
  | 3 => ("LockedAtDusk$Image", "book", "LLockedAtDusk$Rows;", true)
  | _ => ("LockedAtDusk$Image", "isTaken", "Z", false)
def tyX2 : Nat → FieldType := fun k => match k with
  | 0 => .object "LockedAtDusk$Park"
  | 1 => .object "LockedAtDusk$Rows"
  | 2 => .object "LockedAtDusk$Rows"
  | 3 => .object "LockedAtDusk$Rows"
  | _ => .boolean
theorem nmX2 : ∀ a, a < 5 → ∀ b, b < 5 → a ≠ b → (TX2 a).2.1 ≠ (TX2 b).2.1 := by decide +kernel
theorem tyX2_ok : ∀ k, k < 5 → parseFieldDescriptor (TX2 k).2.2.1 = some (tyX2 k) := by decide +kernel
abbrev cX2_init : ByteArray := prog_4_method_1_code
def yX2_init : MethodName := ⟨RX2, "<init>", "()V"⟩
def RX3 : String := "LockedAtDusk$Park"
def TX3 : u_T := fun k => match k with
  | 0 => ("LockedAtDusk$Park", "gatePlaces", "[I", true)
  | 1 => ("LockedAtDusk$Park", "persons", "[LLockedAtDusk$Person;", true)
  | 2 => ("LockedAtDusk$Park", "round", "[I", true)
  | 3 => ("LockedAtDusk$Park", "facts", "[I", true)
  | 4 => ("LockedAtDusk$Park", "gates", "I", false)
  | 5 => ("LockedAtDusk$Park", "shutGates", "I", false)
  | 6 => ("LockedAtDusk$Park", "people", "I", false)
  | 7 => ("LockedAtDusk$Park", "keeper", "I", false)
  | 8 => ("LockedAtDusk$Park", "rounds", "I", false)
  | 9 => ("LockedAtDusk$Park", "at", "I", false)
  | 10 => ("LockedAtDusk$Park", "minute", "I", false)
  | 11 => ("LockedAtDusk$Park", "dusk", "LLockedAtDusk$Dusk;", false)
  | 12 => ("LockedAtDusk$Park", "otherPace", "I", false)
  | 13 => ("LockedAtDusk$Park", "waiting", "I", false)
  | _ => ("LockedAtDusk$Park", "openGate", "I", false)
def tyX3 : Nat → FieldType := fun k => match k with
  | 0 => .array .int
  | 1 => .array (.object "LockedAtDusk$Person")
  | 2 => .array .int
  | 3 => .array .int
  | 4 => .int
  | 5 => .int
  | 6 => .int
  | 7 => .int
  | 8 => .int
  | 9 => .int
  | 10 => .int
  | 11 => .object "LockedAtDusk$Dusk"
  | 12 => .int
  | 13 => .int
  | _ => .int
theorem nmX3 : ∀ a, a < 15 → ∀ b, b < 15 → a ≠ b → (TX3 a).2.1 ≠ (TX3 b).2.1 := by decide +kernel
theorem tyX3_ok : ∀ k, k < 15 → parseFieldDescriptor (TX3 k).2.2.1 = some (tyX3 k) := by decide +kernel
abbrev cX3_init : ByteArray := prog_5_method_1_code
def yX3_init : MethodName := ⟨RX3, "<init>", "()V"⟩
abbrev cX3_copyFrom : ByteArray := prog_5_method_2_code
def yX3_copyFrom : MethodName := ⟨RX3, "copyFrom", "(LLockedAtDusk$Park;)V"⟩
abbrev cX3_hasGate : ByteArray := prog_5_method_3_code
def yX3_hasGate : MethodName := ⟨RX3, "hasGate", "(I)Z"⟩
abbrev cX3_hasPerson : ByteArray := prog_5_method_4_code
def yX3_hasPerson : MethodName := ⟨RX3, "hasPerson", "(I)Z"⟩
abbrev cX3_addGate : ByteArray := prog_5_method_5_code
def yX3_addGate : MethodName := ⟨RX3, "addGate", "(I)I"⟩
abbrev cX3_addPerson : ByteArray := prog_5_method_6_code
def yX3_addPerson : MethodName := ⟨RX3, "addPerson", "(III)I"⟩
abbrev cX3_isShut : ByteArray := prog_5_method_7_code
def yX3_isShut : MethodName := ⟨RX3, "isShut", "(I)Z"⟩
abbrev cX3_setShut : ByteArray := prog_5_method_8_code
def yX3_setShut : MethodName := ⟨RX3, "setShut", "(IZ)V"⟩
abbrev cX3_setDown : ByteArray := prog_5_method_9_code
def yX3_setDown : MethodName := ⟨RX3, "setDown", "(II)V"⟩
abbrev cX3_endRound : ByteArray := prog_5_method_10_code
def yX3_endRound : MethodName := ⟨RX3, "endRound", "()V"⟩
abbrev cX3_beginRoundWith : ByteArray := prog_5_method_11_code
def yX3_beginRoundWith : MethodName := ⟨RX3, "beginRoundWith", "(I)V"⟩
abbrev cX3_swapInRound : ByteArray := prog_5_method_12_code
def yX3_swapInRound : MethodName := ⟨RX3, "swapInRound", "(II)V"⟩
abbrev cX3_keepOpen : ByteArray := prog_5_method_13_code
def yX3_keepOpen : MethodName := ⟨RX3, "keepOpen", "(I)V"⟩
abbrev cX3_sendOthersOut : ByteArray := prog_5_method_14_code
def yX3_sendOthersOut : MethodName := ⟨RX3, "sendOthersOut", "(I)V"⟩
abbrev cX3_outBits : ByteArray := prog_5_method_15_code
def yX3_outBits : MethodName := ⟨RX3, "outBits", "()I"⟩
abbrev cX3_inside : ByteArray := prog_5_method_16_code
def yX3_inside : MethodName := ⟨RX3, "inside", "()I"⟩
abbrev cX3_leftBehind : ByteArray := prog_5_method_17_code
def yX3_leftBehind : MethodName := ⟨RX3, "leftBehind", "()I"⟩
abbrev cX3_passMinutes : ByteArray := prog_5_method_18_code
def yX3_passMinutes : MethodName := ⟨RX3, "passMinutes", "(I)V"⟩
abbrev cX3_passMinute : ByteArray := prog_5_method_19_code
def yX3_passMinute : MethodName := ⟨RX3, "passMinute", "()V"⟩
abbrev cX3_walk : ByteArray := prog_5_method_20_code
def yX3_walk : MethodName := ⟨RX3, "walk", "(LLockedAtDusk$Person;)V"⟩
abbrev cX3_goRound : ByteArray := prog_5_method_21_code
def yX3_goRound : MethodName := ⟨RX3, "goRound", "()V"⟩
abbrev cX3_ears : ByteArray := prog_5_method_22_code
def yX3_ears : MethodName := ⟨RX3, "ears", "(I)I"⟩
abbrev cX3_hears : ByteArray := prog_5_method_23_code
def yX3_hears : MethodName := ⟨RX3, "hears", "(I)Z"⟩
abbrev cX3_steps : ByteArray := prog_5_method_24_code
def yX3_steps : MethodName := ⟨RX3, "steps", "(LLockedAtDusk$Person;)I"⟩
abbrev cX3_goal : ByteArray := prog_5_method_25_code
def yX3_goal : MethodName := ⟨RX3, "goal", "(LLockedAtDusk$Person;)I"⟩
abbrev cX3_way : ByteArray := prog_5_method_26_code
def yX3_way : MethodName := ⟨RX3, "way", "(II)I"⟩
abbrev cX3_toward : ByteArray := prog_5_method_27_code
def yX3_toward : MethodName := ⟨RX3, "toward", "(III)I"⟩
def RX4 : String := "LockedAtDusk$Person"
def TX4 : u_T := fun k => match k with
  | 0 => ("LockedAtDusk$Person", "kind", "I", false)
  | 1 => ("LockedAtDusk$Person", "v", "I", false)
  | 2 => ("LockedAtDusk$Person", "place", "I", false)
  | 3 => ("LockedAtDusk$Person", "found", "I", false)
  | 4 => ("LockedAtDusk$Person", "called", "Z", false)
  | 5 => ("LockedAtDusk$Person", "out", "Z", false)
  | _ => ("LockedAtDusk$Person", "row", "[I", true)
def tyX4 : Nat → FieldType := fun k => match k with
  | 0 => .int
  | 1 => .int
  | 2 => .int
  | 3 => .int
  | 4 => .boolean
  | 5 => .boolean
  | _ => .array .int
theorem nmX4 : ∀ a, a < 7 → ∀ b, b < 7 → a ≠ b → (TX4 a).2.1 ≠ (TX4 b).2.1 := by decide +kernel
theorem tyX4_ok : ∀ k, k < 7 → parseFieldDescriptor (TX4 k).2.2.1 = some (tyX4 k) := by decide +kernel
abbrev cX4_init : ByteArray := prog_6_method_1_code
def yX4_init : MethodName := ⟨RX4, "<init>", "()V"⟩
abbrev cX4_begin : ByteArray := prog_6_method_2_code
def yX4_begin : MethodName := ⟨RX4, "begin", "(III)V"⟩
abbrev cX4_copyFrom : ByteArray := prog_6_method_3_code
def yX4_copyFrom : MethodName := ⟨RX4, "copyFrom", "(LLockedAtDusk$Person;)V"⟩
def RX5 : String := "LockedAtDusk$Reader"
def TX5 : u_T := fun k => match k with
  | 0 => ("LockedAtDusk$Reader", "text", "[B", true)
  | 1 => ("LockedAtDusk$Reader", "length", "I", false)
  | 2 => ("LockedAtDusk$Reader", "at", "I", false)
  | _ => ("LockedAtDusk$Reader", "dusk", "LLockedAtDusk$Dusk;", false)
def tyX5 : Nat → FieldType := fun k => match k with
  | 0 => .array .byte
  | 1 => .int
  | 2 => .int
  | _ => .object "LockedAtDusk$Dusk"
theorem nmX5 : ∀ a, a < 4 → ∀ b, b < 4 → a ≠ b → (TX5 a).2.1 ≠ (TX5 b).2.1 := by decide +kernel
theorem tyX5_ok : ∀ k, k < 4 → parseFieldDescriptor (TX5 k).2.2.1 = some (tyX5 k) := by decide +kernel
abbrev cX5_init : ByteArray := prog_7_method_1_code
def yX5_init : MethodName := ⟨RX5, "<init>", "()V"⟩
abbrev cX5_addSign : ByteArray := prog_7_method_2_code
def yX5_addSign : MethodName := ⟨RX5, "addSign", "(I)I"⟩
abbrev cX5_readInto : ByteArray := prog_7_method_3_code
def yX5_readInto : MethodName := ⟨RX5, "readInto", "(LLockedAtDusk$Dusk;)I"⟩
abbrev cX5_isNext : ByteArray := prog_7_method_4_code
def yX5_isNext : MethodName := ⟨RX5, "isNext", "(C)Z"⟩
abbrev cX5_skip : ByteArray := prog_7_method_5_code
def yX5_skip : MethodName := ⟨RX5, "skip", "(C)Z"⟩
abbrev cX5_readClause : ByteArray := prog_7_method_6_code
def yX5_readClause : MethodName := ⟨RX5, "readClause", "()Z"⟩
abbrev cX5_readWord : ByteArray := prog_7_method_7_code
def yX5_readWord : MethodName := ⟨RX5, "readWord", "(Ljava/lang/String;)Z"⟩
abbrev cX5_readNumber : ByteArray := prog_7_method_8_code
def yX5_readNumber : MethodName := ⟨RX5, "readNumber", "()I"⟩
abbrev cX5_readEither : ByteArray := prog_7_method_9_code
def yX5_readEither : MethodName := ⟨RX5, "readEither", "(I)Z"⟩
abbrev cX5_readBoth : ByteArray := prog_7_method_10_code
def yX5_readBoth : MethodName := ⟨RX5, "readBoth", "(I)Z"⟩
abbrev cX5_readPart : ByteArray := prog_7_method_11_code
def yX5_readPart : MethodName := ⟨RX5, "readPart", "(I)Z"⟩
abbrev cX5_readBehindNot : ByteArray := prog_7_method_12_code
def yX5_readBehindNot : MethodName := ⟨RX5, "readBehindNot", "(I)Z"⟩
abbrev cX5_readTest : ByteArray := prog_7_method_13_code
def yX5_readTest : MethodName := ⟨RX5, "readTest", "()Z"⟩
abbrev cX5_readOneOf : ByteArray := prog_7_method_14_code
def yX5_readOneOf : MethodName := ⟨RX5, "readOneOf", "(Ljava/lang/String;)I"⟩
def RX6 : String := "LockedAtDusk$Rows"
def TX6 : u_T := fun k => match k with
  | 0 => ("LockedAtDusk$Rows", "first", "[I", true)
  | 1 => ("LockedAtDusk$Rows", "second", "[I", true)
  | 2 => ("LockedAtDusk$Rows", "third", "[I", true)
  | _ => ("LockedAtDusk$Rows", "size", "I", false)
def tyX6 : Nat → FieldType := fun k => match k with
  | 0 => .array .int
  | 1 => .array .int
  | 2 => .array .int
  | _ => .int
theorem nmX6 : ∀ a, a < 4 → ∀ b, b < 4 → a ≠ b → (TX6 a).2.1 ≠ (TX6 b).2.1 := by decide +kernel
theorem tyX6_ok : ∀ k, k < 4 → parseFieldDescriptor (TX6 k).2.2.1 = some (tyX6 k) := by decide +kernel
abbrev cX6_init : ByteArray := prog_8_method_1_code
def yX6_init : MethodName := ⟨RX6, "<init>", "(I)V"⟩
abbrev cX6_isFull : ByteArray := prog_8_method_2_code
def yX6_isFull : MethodName := ⟨RX6, "isFull", "()Z"⟩
abbrev cX6_addRow : ByteArray := prog_8_method_3_code
def yX6_addRow : MethodName := ⟨RX6, "addRow", "(III)I"⟩
abbrev cX6_copyFrom : ByteArray := prog_8_method_4_code
def yX6_copyFrom : MethodName := ⟨RX6, "copyFrom", "(LLockedAtDusk$Rows;)V"⟩
def RX7 : String := "LockedAtDusk$Tape"
def TX7 : u_T := fun k => match k with
  | 0 => ("LockedAtDusk$Tape", "items", "[J", true)
  | 1 => ("LockedAtDusk$Tape", "sort", "I", false)
  | _ => ("LockedAtDusk$Tape", "size", "I", false)
def tyX7 : Nat → FieldType := fun k => match k with
  | 0 => .array .long
  | 1 => .int
  | _ => .int
theorem nmX7 : ∀ a, a < 3 → ∀ b, b < 3 → a ≠ b → (TX7 a).2.1 ≠ (TX7 b).2.1 := by decide +kernel
theorem tyX7_ok : ∀ k, k < 3 → parseFieldDescriptor (TX7 k).2.2.1 = some (tyX7 k) := by decide +kernel
abbrev cX7_init : ByteArray := prog_9_method_1_code
def yX7_init : MethodName := ⟨RX7, "<init>", "()V"⟩
abbrev cX7_become : ByteArray := prog_9_method_2_code
def yX7_become : MethodName := ⟨RX7, "become", "(II)V"⟩
abbrev cX7_hasItem : ByteArray := prog_9_method_3_code
def yX7_hasItem : MethodName := ⟨RX7, "hasItem", "(I)Z"⟩
abbrev cX7_hasItems : ByteArray := prog_9_method_4_code
def yX7_hasItems : MethodName := ⟨RX7, "hasItems", "(II)Z"⟩
abbrev cX7_narrowed : ByteArray := prog_9_method_5_code
def yX7_narrowed : MethodName := ⟨RX7, "narrowed", "(J)J"⟩
def RX8 : String := "LockedAtDusk"
def TX8 : u_T := fun k => match k with
  | 0 => ("LockedAtDusk", "now", "LLockedAtDusk$Park;", true)
  | 1 => ("LockedAtDusk", "trial", "LLockedAtDusk$Park;", true)
  | 2 => ("LockedAtDusk", "seen", "LLockedAtDusk$Rows;", true)
  | 3 => ("LockedAtDusk", "evening", "LLockedAtDusk$Rows;", true)
  | 4 => ("LockedAtDusk", "book", "LLockedAtDusk$Rows;", true)
  | 5 => ("LockedAtDusk", "image", "LLockedAtDusk$Image;", true)
  | 6 => ("LockedAtDusk", "reader", "LLockedAtDusk$Reader;", true)
  | 7 => ("LockedAtDusk", "dusks", "[LLockedAtDusk$Dusk;", true)
  | 8 => ("LockedAtDusk", "acts", "LLockedAtDusk$Acts;", true)
  | 9 => ("LockedAtDusk", "tapes", "[LLockedAtDusk$Tape;", true)
  | _ => ("LockedAtDusk", "duskCount", "I", false)
def tyX8 : Nat → FieldType := fun k => match k with
  | 0 => .object "LockedAtDusk$Park"
  | 1 => .object "LockedAtDusk$Park"
  | 2 => .object "LockedAtDusk$Rows"
  | 3 => .object "LockedAtDusk$Rows"
  | 4 => .object "LockedAtDusk$Rows"
  | 5 => .object "LockedAtDusk$Image"
  | 6 => .object "LockedAtDusk$Reader"
  | 7 => .array (.object "LockedAtDusk$Dusk")
  | 8 => .object "LockedAtDusk$Acts"
  | 9 => .array (.object "LockedAtDusk$Tape")
  | _ => .int
theorem nmX8 : ∀ a, a < 11 → ∀ b, b < 11 → a ≠ b → (TX8 a).2.1 ≠ (TX8 b).2.1 := by decide +kernel
theorem tyX8_ok : ∀ k, k < 11 → parseFieldDescriptor (TX8 k).2.2.1 = some (tyX8 k) := by decide +kernel
abbrev cX8_init : ByteArray := prog_1_method_1_code
def yX8_init : MethodName := ⟨RX8, "<init>", "()V"⟩
abbrev cX8_gate : ByteArray := prog_1_method_2_code
def yX8_gate : MethodName := ⟨RX8, "gate", "(I)I"⟩
abbrev cX8_person : ByteArray := prog_1_method_3_code
def yX8_person : MethodName := ⟨RX8, "person", "(III)I"⟩
abbrev cX8_of : ByteArray := prog_1_method_4_code
def yX8_of : MethodName := ⟨RX8, "of", "(II)I"⟩
abbrev cX8_put : ByteArray := prog_1_method_5_code
def yX8_put : MethodName := ⟨RX8, "put", "(II)I"⟩
abbrev cX8_call : ByteArray := prog_1_method_6_code
def yX8_call : MethodName := ⟨RX8, "call", "(IZ)I"⟩
abbrev cX8_shut : ByteArray := prog_1_method_7_code
def yX8_shut : MethodName := ⟨RX8, "shut", "(IZ)I"⟩
abbrev cX8_row : ByteArray := prog_1_method_8_code
def yX8_row : MethodName := ⟨RX8, "row", "(III)I"⟩
abbrev cX8_round : ByteArray := prog_1_method_9_code
def yX8_round : MethodName := ⟨RX8, "round", "(I)I"⟩
abbrev cX8_feed : ByteArray := prog_1_method_10_code
def yX8_feed : MethodName := ⟨RX8, "feed", "(I)I"⟩
abbrev cX8_dusk : ByteArray := prog_1_method_11_code
def yX8_dusk : MethodName := ⟨RX8, "dusk", "()I"⟩
abbrev cX8_told : ByteArray := prog_1_method_12_code
def yX8_told : MethodName := ⟨RX8, "told", "(I)I"⟩
abbrev cX8_pass : ByteArray := prog_1_method_13_code
def yX8_pass : MethodName := ⟨RX8, "pass", "(I)I"⟩
abbrev cX8_on : ByteArray := prog_1_method_14_code
def yX8_on : MethodName := ⟨RX8, "on", "(II)I"⟩
abbrev cX8_clear : ByteArray := prog_1_method_15_code
def yX8_clear : MethodName := ⟨RX8, "clear", "()I"⟩
abbrev cX8_stay : ByteArray := prog_1_method_16_code
def yX8_stay : MethodName := ⟨RX8, "stay", "()I"⟩
abbrev cX8_best : ByteArray := prog_1_method_17_code
def yX8_best : MethodName := ⟨RX8, "best", "(I)I"⟩
abbrev cX8_bestChange : ByteArray := prog_1_method_18_code
def yX8_bestChange : MethodName := ⟨RX8, "bestChange", "(II)I"⟩
abbrev cX8_canChange : ByteArray := prog_1_method_19_code
def yX8_canChange : MethodName := ⟨RX8, "canChange", "(II)Z"⟩
abbrev cX8_makeChange : ByteArray := prog_1_method_20_code
def yX8_makeChange : MethodName := ⟨RX8, "makeChange", "(II)V"⟩
abbrev cX8_hides : ByteArray := prog_1_method_21_code
def yX8_hides : MethodName := ⟨RX8, "hides", "(I)I"⟩
abbrev cX8_see : ByteArray := prog_1_method_22_code
def yX8_see : MethodName := ⟨RX8, "see", "(IZI)I"⟩
abbrev cX8_where : ByteArray := prog_1_method_23_code
def yX8_where : MethodName := ⟨RX8, "where", "(II)I"⟩
abbrev cX8_can : ByteArray := prog_1_method_24_code
def yX8_can : MethodName := ⟨RX8, "can", "(II)I"⟩
abbrev cX8_trialIsAsSeen : ByteArray := prog_1_method_25_code
def yX8_trialIsAsSeen : MethodName := ⟨RX8, "trialIsAsSeen", "()Z"⟩
abbrev cX8_leastOf : ByteArray := prog_1_method_26_code
def yX8_leastOf : MethodName := ⟨RX8, "leastOf", "(I)I"⟩
abbrev cX8_odds : ByteArray := prog_1_method_27_code
def yX8_odds : MethodName := ⟨RX8, "odds", "(II)J"⟩
abbrev cX8_mean : ByteArray := prog_1_method_28_code
def yX8_mean : MethodName := ⟨RX8, "mean", "(II)J"⟩
abbrev cX8_fractionPart : ByteArray := prog_1_method_29_code
def yX8_fractionPart : MethodName := ⟨RX8, "fractionPart", "(III)J"⟩
abbrev cX8_commonDivisor : ByteArray := prog_1_method_30_code
def yX8_commonDivisor : MethodName := ⟨RX8, "commonDivisor", "(II)I"⟩
abbrev cX8_evening : ByteArray := prog_1_method_31_code
def yX8_evening : MethodName := ⟨RX8, "evening", "(II)I"⟩
abbrev cX8_gone : ByteArray := prog_1_method_32_code
def yX8_gone : MethodName := ⟨RX8, "gone", "(I)I"⟩
abbrev cX8_book : ByteArray := prog_1_method_33_code
def yX8_book : MethodName := ⟨RX8, "book", "(II)I"⟩
abbrev cX8_looked : ByteArray := prog_1_method_34_code
def yX8_looked : MethodName := ⟨RX8, "looked", "()I"⟩
abbrev cX8_judge : ByteArray := prog_1_method_35_code
def yX8_judge : MethodName := ⟨RX8, "judge", "(II)I"⟩
abbrev cX8_image : ByteArray := prog_1_method_36_code
def yX8_image : MethodName := ⟨RX8, "image", "()I"⟩
abbrev cX8_undo : ByteArray := prog_1_method_37_code
def yX8_undo : MethodName := ⟨RX8, "undo", "()I"⟩
abbrev cX8_act : ByteArray := prog_1_method_38_code
def yX8_act : MethodName := ⟨RX8, "act", "(III)I"⟩
abbrev cX8_trace : ByteArray := prog_1_method_39_code
def yX8_trace : MethodName := ⟨RX8, "trace", "(I)I"⟩
abbrev cX8_taken : ByteArray := prog_1_method_40_code
def yX8_taken : MethodName := ⟨RX8, "taken", "(II)I"⟩
abbrev cX8_isUnder : ByteArray := prog_1_method_41_code
def yX8_isUnder : MethodName := ⟨RX8, "isUnder", "(II)Z"⟩
abbrev cX8_count : ByteArray := prog_1_method_42_code
def yX8_count : MethodName := ⟨RX8, "count", "(I)I"⟩
abbrev cX8_tape : ByteArray := prog_1_method_43_code
def yX8_tape : MethodName := ⟨RX8, "tape", "(III)I"⟩
abbrev cX8_item : ByteArray := prog_1_method_44_code
def yX8_item : MethodName := ⟨RX8, "item", "(IIJ)I"⟩
abbrev cX8_read : ByteArray := prog_1_method_45_code
def yX8_read : MethodName := ⟨RX8, "read", "(II)J"⟩
abbrev cX8_shift : ByteArray := prog_1_method_46_code
def yX8_shift : MethodName := ⟨RX8, "shift", "(IIIII)I"⟩
abbrev cX8_isPlace : ByteArray := prog_1_method_47_code
def yX8_isPlace : MethodName := ⟨RX8, "isPlace", "(I)Z"⟩
abbrev cX8_isDigit : ByteArray := prog_1_method_48_code
def yX8_isDigit : MethodName := ⟨RX8, "isDigit", "(I)Z"⟩
abbrev cX8_isPart : ByteArray := prog_1_method_49_code
def yX8_isPart : MethodName := ⟨RX8, "isPart", "(I)Z"⟩
abbrev cX8_isTape : ByteArray := prog_1_method_50_code
def yX8_isTape : MethodName := ⟨RX8, "isTape", "(I)Z"⟩
abbrev cX8_bit : ByteArray := prog_1_method_51_code
def yX8_bit : MethodName := ⟨RX8, "bit", "(Z)I"⟩
def RX9 : String := "LockedAtDuskModel"
def TX9 : u_T := fun k => match k with
  | 0 => ("LockedAtDuskModel", "gates", "I", false)
  | 1 => ("LockedAtDuskModel", "people", "I", false)
  | 2 => ("LockedAtDuskModel", "minutes", "I", false)
  | 3 => ("LockedAtDuskModel", "closed", "I", false)
  | 4 => ("LockedAtDuskModel", "called", "I", false)
  | 5 => ("LockedAtDuskModel", "gone0", "I", false)
  | 6 => ("LockedAtDuskModel", "keeper", "I", false)
  | 7 => ("LockedAtDuskModel", "done", "I", false)
  | 8 => ("LockedAtDuskModel", "rounds", "I", false)
  | 9 => ("LockedAtDuskModel", "gateAt", "[I", true)
  | 10 => ("LockedAtDuskModel", "kind", "[I", true)
  | 11 => ("LockedAtDuskModel", "v", "[I", true)
  | 12 => ("LockedAtDuskModel", "where0", "[I", true)
  | 13 => ("LockedAtDuskModel", "found", "[I", true)
  | 14 => ("LockedAtDuskModel", "rows", "[I", true)
  | 15 => ("LockedAtDuskModel", "tour", "[I", true)
  | 16 => ("LockedAtDuskModel", "dusks", "I", false)
  | 17 => ("LockedAtDuskModel", "the", "I", false)
  | 18 => ("LockedAtDuskModel", "fed", "I", false)
  | 19 => ("LockedAtDuskModel", "at", "I", false)
  | 20 => ("LockedAtDuskModel", "digits", "I", false)
  | 21 => ("LockedAtDuskModel", "text", "[I", true)
  | 22 => ("LockedAtDuskModel", "clauses", "[I", true)
  | 23 => ("LockedAtDuskModel", "word", "[I", true)
  | 24 => ("LockedAtDuskModel", "number", "[I", true)
  | 25 => ("LockedAtDuskModel", "from", "[I", true)
  | 26 => ("LockedAtDuskModel", "to", "[I", true)
  | 27 => ("LockedAtDuskModel", "sign", "[I", true)
  | 28 => ("LockedAtDuskModel", "waits", "[I", true)
  | 29 => ("LockedAtDuskModel", "signs", "I", false)
  | 30 => ("LockedAtDuskModel", "waiting", "I", false)
  | 31 => ("LockedAtDuskModel", "open", "I", false)
  | 32 => ("LockedAtDuskModel", "letters", "[I", true)
  | 33 => ("LockedAtDuskModel", "paceInMind", "I", false)
  | 34 => ("LockedAtDuskModel", "waitInMind", "I", false)
  | 35 => ("LockedAtDuskModel", "openInMind", "I", false)
  | 36 => ("LockedAtDuskModel", "pile", "[Z", true)
  | 37 => ("LockedAtDuskModel", "thenAt", "[I", true)
  | 38 => ("LockedAtDuskModel", "thenCalled", "I", false)
  | 39 => ("LockedAtDuskModel", "thenGone", "I", false)
  | 40 => ("LockedAtDuskModel", "keptMinutes", "I", false)
  | 41 => ("LockedAtDuskModel", "keptClosed", "I", false)
  | 42 => ("LockedAtDuskModel", "keptCalled", "I", false)
  | 43 => ("LockedAtDuskModel", "keptGone", "I", false)
  | 44 => ("LockedAtDuskModel", "keptKeeper", "I", false)
  | 45 => ("LockedAtDuskModel", "keptDone", "I", false)
  | 46 => ("LockedAtDuskModel", "keptAt", "[I", true)
  | 47 => ("LockedAtDuskModel", "keptFound", "[I", true)
  | 48 => ("LockedAtDuskModel", "keptTour", "[I", true)
  | 49 => ("LockedAtDuskModel", "seen", "I", false)
  | 50 => ("LockedAtDuskModel", "seenWho", "[I", true)
  | 51 => ("LockedAtDuskModel", "seenWhen", "[I", true)
  | 52 => ("LockedAtDuskModel", "seenOut", "[Z", true)
  | 53 => ("LockedAtDuskModel", "evenings", "I", false)
  | 54 => ("LockedAtDuskModel", "books", "I", false)
  | 55 => ("LockedAtDuskModel", "eveningWhat", "[I", true)
  | 56 => ("LockedAtDuskModel", "eveningNumber", "[I", true)
  | 57 => ("LockedAtDuskModel", "bookWho", "[I", true)
  | 58 => ("LockedAtDuskModel", "bookAt", "[I", true)
  | 59 => ("LockedAtDuskModel", "hasImage", "Z", false)
  | 60 => ("LockedAtDuskModel", "imageThe", "I", false)
  | 61 => ("LockedAtDuskModel", "imageGates", "I", false)
  | 62 => ("LockedAtDuskModel", "imagePeople", "I", false)
  | 63 => ("LockedAtDuskModel", "imageMinutes", "I", false)
  | 64 => ("LockedAtDuskModel", "imageClosed", "I", false)
  | 65 => ("LockedAtDuskModel", "imageCalled", "I", false)
  | 66 => ("LockedAtDuskModel", "imageGone", "I", false)
  | 67 => ("LockedAtDuskModel", "imageKeeper", "I", false)
  | 68 => ("LockedAtDuskModel", "imageDone", "I", false)
  | 69 => ("LockedAtDuskModel", "imageRounds", "I", false)
  | 70 => ("LockedAtDuskModel", "imageSeen", "I", false)
  | 71 => ("LockedAtDuskModel", "imageEvenings", "I", false)
  | 72 => ("LockedAtDuskModel", "imageBooks", "I", false)
  | 73 => ("LockedAtDuskModel", "imageGateAt", "[I", true)
  | 74 => ("LockedAtDuskModel", "imageKind", "[I", true)
  | 75 => ("LockedAtDuskModel", "imageV", "[I", true)
  | 76 => ("LockedAtDuskModel", "imageAt", "[I", true)
  | 77 => ("LockedAtDuskModel", "imageFound", "[I", true)
  | 78 => ("LockedAtDuskModel", "imageTour", "[I", true)
  | 79 => ("LockedAtDuskModel", "imageRows", "[I", true)
  | 80 => ("LockedAtDuskModel", "imageWho", "[I", true)
  | 81 => ("LockedAtDuskModel", "imageWhen", "[I", true)
  | 82 => ("LockedAtDuskModel", "imageWhat", "[I", true)
  | 83 => ("LockedAtDuskModel", "imageNumber", "[I", true)
  | 84 => ("LockedAtDuskModel", "imageBookWho", "[I", true)
  | 85 => ("LockedAtDuskModel", "imageBookAt", "[I", true)
  | 86 => ("LockedAtDuskModel", "imageOut", "[Z", true)
  | 87 => ("LockedAtDuskModel", "ran", "I", false)
  | 88 => ("LockedAtDuskModel", "bodies", "[I", true)
  | 89 => ("LockedAtDuskModel", "sort", "[I", true)
  | 90 => ("LockedAtDuskModel", "length", "[I", true)
  | 91 => ("LockedAtDuskModel", "item", "[J", true)
  | _ => ("LockedAtDuskModel", "aside", "[J", true)
def tyX9 : Nat → FieldType := fun k => match k with
  | 0 => .int
  | 1 => .int
  | 2 => .int
  | 3 => .int
  | 4 => .int
  | 5 => .int
  | 6 => .int
  | 7 => .int
  | 8 => .int
  | 9 => .array .int
  | 10 => .array .int
  | 11 => .array .int
  | 12 => .array .int
  | 13 => .array .int
  | 14 => .array .int
  | 15 => .array .int
  | 16 => .int
  | 17 => .int
  | 18 => .int
  | 19 => .int
  | 20 => .int
  | 21 => .array .int
  | 22 => .array .int
  | 23 => .array .int
  | 24 => .array .int
  | 25 => .array .int
  | 26 => .array .int
  | 27 => .array .int
  | 28 => .array .int
  | 29 => .int
  | 30 => .int
  | 31 => .int
  | 32 => .array .int
  | 33 => .int
  | 34 => .int
  | 35 => .int
  | 36 => .array .boolean
  | 37 => .array .int
  | 38 => .int
  | 39 => .int
  | 40 => .int
  | 41 => .int
  | 42 => .int
  | 43 => .int
  | 44 => .int
  | 45 => .int
  | 46 => .array .int
  | 47 => .array .int
  | 48 => .array .int
  | 49 => .int
  | 50 => .array .int
  | 51 => .array .int
  | 52 => .array .boolean
  | 53 => .int
  | 54 => .int
  | 55 => .array .int
  | 56 => .array .int
  | 57 => .array .int
  | 58 => .array .int
  | 59 => .boolean
  | 60 => .int
  | 61 => .int
  | 62 => .int
  | 63 => .int
  | 64 => .int
  | 65 => .int
  | 66 => .int
  | 67 => .int
  | 68 => .int
  | 69 => .int
  | 70 => .int
  | 71 => .int
  | 72 => .int
  | 73 => .array .int
  | 74 => .array .int
  | 75 => .array .int
  | 76 => .array .int
  | 77 => .array .int
  | 78 => .array .int
  | 79 => .array .int
  | 80 => .array .int
  | 81 => .array .int
  | 82 => .array .int
  | 83 => .array .int
  | 84 => .array .int
  | 85 => .array .int
  | 86 => .array .boolean
  | 87 => .int
  | 88 => .array .int
  | 89 => .array .int
  | 90 => .array .int
  | 91 => .array .long
  | _ => .array .long
theorem nmX9 : ∀ a, a < 93 → ∀ b, b < 93 → a ≠ b → (TX9 a).2.1 ≠ (TX9 b).2.1 := by decide +kernel
theorem tyX9_ok : ∀ k, k < 93 → parseFieldDescriptor (TX9 k).2.2.1 = some (tyX9 k) := by decide +kernel
abbrev cX9_init : ByteArray := prog_11_method_1_code
def yX9_init : MethodName := ⟨RX9, "<init>", "()V"⟩
abbrev cX9_in : ByteArray := prog_11_method_2_code
def yX9_in : MethodName := ⟨RX9, "in", "(III)Z"⟩
abbrev cX9_has : ByteArray := prog_11_method_3_code
def yX9_has : MethodName := ⟨RX9, "has", "(II)Z"⟩
abbrev cX9_with0 : ByteArray := prog_11_method_4_code
def yX9_with0 : MethodName := ⟨RX9, "with0", "(IIZ)I"⟩
abbrev cX9_ones : ByteArray := prog_11_method_5_code
def yX9_ones : MethodName := ⟨RX9, "ones", "(I)I"⟩
abbrev cX9_isGate : ByteArray := prog_11_method_6_code
def yX9_isGate : MethodName := ⟨RX9, "isGate", "(I)Z"⟩
abbrev cX9_isPerson : ByteArray := prog_11_method_7_code
def yX9_isPerson : MethodName := ⟨RX9, "isPerson", "(I)Z"⟩
abbrev cX9_isPlace : ByteArray := prog_11_method_8_code
def yX9_isPlace : MethodName := ⟨RX9, "isPlace", "(I)Z"⟩
abbrev cX9_isMinutes : ByteArray := prog_11_method_9_code
def yX9_isMinutes : MethodName := ⟨RX9, "isMinutes", "(I)Z"⟩
abbrev cX9_gate : ByteArray := prog_11_method_10_code
def yX9_gate : MethodName := ⟨RX9, "gate", "(I)I"⟩
abbrev cX9_person : ByteArray := prog_11_method_11_code
def yX9_person : MethodName := ⟨RX9, "person", "(III)I"⟩
abbrev cX9_puts : ByteArray := prog_11_method_12_code
def yX9_puts : MethodName := ⟨RX9, "puts", "(II)V"⟩
abbrev cX9_put : ByteArray := prog_11_method_13_code
def yX9_put : MethodName := ⟨RX9, "put", "(II)I"⟩
abbrev cX9_call : ByteArray := prog_11_method_14_code
def yX9_call : MethodName := ⟨RX9, "call", "(IZ)I"⟩
abbrev cX9_shut : ByteArray := prog_11_method_15_code
def yX9_shut : MethodName := ⟨RX9, "shut", "(IZ)I"⟩
abbrev cX9_row : ByteArray := prog_11_method_16_code
def yX9_row : MethodName := ⟨RX9, "row", "(III)I"⟩
abbrev cX9_round : ByteArray := prog_11_method_17_code
def yX9_round : MethodName := ⟨RX9, "round", "(I)I"⟩
abbrev cX9_feed : ByteArray := prog_11_method_18_code
def yX9_feed : MethodName := ⟨RX9, "feed", "(I)I"⟩
abbrev cX9_next : ByteArray := prog_11_method_19_code
def yX9_next : MethodName := ⟨RX9, "next", "()I"⟩
abbrev cX9_takes : ByteArray := prog_11_method_20_code
def yX9_takes : MethodName := ⟨RX9, "takes", "(I)Z"⟩
abbrev cX9_takesWord : ByteArray := prog_11_method_21_code
def yX9_takesWord : MethodName := ⟨RX9, "takesWord", "(II)Z"⟩
abbrev cX9_isDigit : ByteArray := prog_11_method_22_code
def yX9_isDigit : MethodName := ⟨RX9, "isDigit", "()Z"⟩
abbrev cX9_takesNumber : ByteArray := prog_11_method_23_code
def yX9_takesNumber : MethodName := ⟨RX9, "takesNumber", "()Z"⟩
abbrev cX9_emits : ByteArray := prog_11_method_24_code
def yX9_emits : MethodName := ⟨RX9, "emits", "(I)V"⟩
abbrev cX9_whole : ByteArray := prog_11_method_25_code
def yX9_whole : MethodName := ⟨RX9, "whole", "()V"⟩
abbrev cX9_settle : ByteArray := prog_11_method_26_code
def yX9_settle : MethodName := ⟨RX9, "settle", "(I)V"⟩
abbrev cX9_place : ByteArray := prog_11_method_27_code
def yX9_place : MethodName := ⟨RX9, "place", "(I)I"⟩
abbrev cX9_takesTest : ByteArray := prog_11_method_28_code
def yX9_takesTest : MethodName := ⟨RX9, "takesTest", "()Z"⟩
abbrev cX9_takesE : ByteArray := prog_11_method_29_code
def yX9_takesE : MethodName := ⟨RX9, "takesE", "(I)Z"⟩
abbrev cX9_takesHead : ByteArray := prog_11_method_30_code
def yX9_takesHead : MethodName := ⟨RX9, "takesHead", "(I)Z"⟩
abbrev cX9_takesClause : ByteArray := prog_11_method_31_code
def yX9_takesClause : MethodName := ⟨RX9, "takesClause", "(I)Z"⟩
abbrev cX9_goesText : ByteArray := prog_11_method_32_code
def yX9_goesText : MethodName := ⟨RX9, "goesText", "(I)Z"⟩
abbrev cX9_dusk : ByteArray := prog_11_method_33_code
def yX9_dusk : MethodName := ⟨RX9, "dusk", "()I"⟩
abbrev cX9_begin : ByteArray := prog_11_method_34_code
def yX9_begin : MethodName := ⟨RX9, "begin", "()I"⟩
abbrev cX9_behind : ByteArray := prog_11_method_35_code
def yX9_behind : MethodName := ⟨RX9, "behind", "()I"⟩
abbrev cX9_lastOf : ByteArray := prog_11_method_36_code
def yX9_lastOf : MethodName := ⟨RX9, "lastOf", "(II)I"⟩
abbrev cX9_pace : ByteArray := prog_11_method_37_code
def yX9_pace : MethodName := ⟨RX9, "pace", "()I"⟩
abbrev cX9_factOf : ByteArray := prog_11_method_38_code
def yX9_factOf : MethodName := ⟨RX9, "factOf", "(II)I"⟩
abbrev cX9_holds : ByteArray := prog_11_method_39_code
def yX9_holds : MethodName := ⟨RX9, "holds", "(II)Z"⟩
abbrev cX9_ears : ByteArray := prog_11_method_40_code
def yX9_ears : MethodName := ⟨RX9, "ears", "(I)I"⟩
abbrev cX9_up : ByteArray := prog_11_method_41_code
def yX9_up : MethodName := ⟨RX9, "up", "(II)I"⟩
abbrev cX9_way : ByteArray := prog_11_method_42_code
def yX9_way : MethodName := ⟨RX9, "way", "(II)I"⟩
abbrev cX9_toward : ByteArray := prog_11_method_43_code
def yX9_toward : MethodName := ⟨RX9, "toward", "(III)I"⟩
abbrev cX9_hears : ByteArray := prog_11_method_44_code
def yX9_hears : MethodName := ⟨RX9, "hears", "(I)Z"⟩
abbrev cX9_steps : ByteArray := prog_11_method_45_code
def yX9_steps : MethodName := ⟨RX9, "steps", "(I)I"⟩
abbrev cX9_goal : ByteArray := prog_11_method_46_code
def yX9_goal : MethodName := ⟨RX9, "goal", "(I)I"⟩
abbrev cX9_of : ByteArray := prog_11_method_47_code
def yX9_of : MethodName := ⟨RX9, "of", "(II)I"⟩
abbrev cX9_told : ByteArray := prog_11_method_48_code
def yX9_told : MethodName := ⟨RX9, "told", "(I)I"⟩
abbrev cX9_goPerson : ByteArray := prog_11_method_49_code
def yX9_goPerson : MethodName := ⟨RX9, "goPerson", "(I)V"⟩
abbrev cX9_goKeeper : ByteArray := prog_11_method_50_code
def yX9_goKeeper : MethodName := ⟨RX9, "goKeeper", "()V"⟩
abbrev cX9_goMinute : ByteArray := prog_11_method_51_code
def yX9_goMinute : MethodName := ⟨RX9, "goMinute", "()V"⟩
abbrev cX9_goMinutes : ByteArray := prog_11_method_52_code
def yX9_goMinutes : MethodName := ⟨RX9, "goMinutes", "(I)V"⟩
abbrev cX9_pass : ByteArray := prog_11_method_53_code
def yX9_pass : MethodName := ⟨RX9, "pass", "(I)I"⟩
abbrev cX9_save : ByteArray := prog_11_method_54_code
def yX9_save : MethodName := ⟨RX9, "save", "()V"⟩
abbrev cX9_putBack : ByteArray := prog_11_method_55_code
def yX9_putBack : MethodName := ⟨RX9, "putBack", "()V"⟩
abbrev cX9_on : ByteArray := prog_11_method_56_code
def yX9_on : MethodName := ⟨RX9, "on", "(II)I"⟩
abbrev cX9_all : ByteArray := prog_11_method_57_code
def yX9_all : MethodName := ⟨RX9, "all", "()I"⟩
abbrev cX9_clear : ByteArray := prog_11_method_58_code
def yX9_clear : MethodName := ⟨RX9, "clear", "()I"⟩
abbrev cX9_stay : ByteArray := prog_11_method_59_code
def yX9_stay : MethodName := ⟨RX9, "stay", "()I"⟩
abbrev cX9_leftThen : ByteArray := prog_11_method_60_code
def yX9_leftThen : MethodName := ⟨RX9, "leftThen", "()I"⟩
abbrev cX9_left : ByteArray := prog_11_method_61_code
def yX9_left : MethodName := ⟨RX9, "left", "()I"⟩
abbrev cX9_firstOf : ByteArray := prog_11_method_62_code
def yX9_firstOf : MethodName := ⟨RX9, "firstOf", "()I"⟩
abbrev cX9_swapOf : ByteArray := prog_11_method_63_code
def yX9_swapOf : MethodName := ⟨RX9, "swapOf", "()I"⟩
abbrev cX9_quickOf : ByteArray := prog_11_method_64_code
def yX9_quickOf : MethodName := ⟨RX9, "quickOf", "()I"⟩
abbrev cX9_waitOf : ByteArray := prog_11_method_65_code
def yX9_waitOf : MethodName := ⟨RX9, "waitOf", "()I"⟩
abbrev cX9_openOf : ByteArray := prog_11_method_66_code
def yX9_openOf : MethodName := ⟨RX9, "openOf", "()I"⟩
abbrev cX9_best : ByteArray := prog_11_method_67_code
def yX9_best : MethodName := ⟨RX9, "best", "(I)I"⟩
abbrev cX9_hides : ByteArray := prog_11_method_68_code
def yX9_hides : MethodName := ⟨RX9, "hides", "(I)I"⟩
abbrev cX9_see : ByteArray := prog_11_method_69_code
def yX9_see : MethodName := ⟨RX9, "see", "(IZI)I"⟩
abbrev cX9_isSeen : ByteArray := prog_11_method_70_code
def yX9_isSeen : MethodName := ⟨RX9, "isSeen", "(II)Z"⟩
abbrev cX9_where : ByteArray := prog_11_method_71_code
def yX9_where : MethodName := ⟨RX9, "where", "(II)I"⟩
abbrev cX9_can : ByteArray := prog_11_method_72_code
def yX9_can : MethodName := ⟨RX9, "can", "(II)I"⟩
abbrev cX9_divisor : ByteArray := prog_11_method_73_code
def yX9_divisor : MethodName := ⟨RX9, "divisor", "(II)I"⟩
abbrev cX9_lowest : ByteArray := prog_11_method_74_code
def yX9_lowest : MethodName := ⟨RX9, "lowest", "(III)J"⟩
abbrev cX9_odds : ByteArray := prog_11_method_75_code
def yX9_odds : MethodName := ⟨RX9, "odds", "(II)J"⟩
abbrev cX9_mean : ByteArray := prog_11_method_76_code
def yX9_mean : MethodName := ⟨RX9, "mean", "(II)J"⟩
abbrev cX9_evening : ByteArray := prog_11_method_77_code
def yX9_evening : MethodName := ⟨RX9, "evening", "(II)I"⟩
abbrev cX9_gone : ByteArray := prog_11_method_78_code
def yX9_gone : MethodName := ⟨RX9, "gone", "(I)I"⟩
abbrev cX9_book : ByteArray := prog_11_method_79_code
def yX9_book : MethodName := ⟨RX9, "book", "(II)I"⟩
abbrev cX9_looked : ByteArray := prog_11_method_80_code
def yX9_looked : MethodName := ⟨RX9, "looked", "()I"⟩
abbrev cX9_judge : ByteArray := prog_11_method_81_code
def yX9_judge : MethodName := ⟨RX9, "judge", "(II)I"⟩
abbrev cX9_image : ByteArray := prog_11_method_82_code
def yX9_image : MethodName := ⟨RX9, "image", "()I"⟩
abbrev cX9_undo : ByteArray := prog_11_method_83_code
def yX9_undo : MethodName := ⟨RX9, "undo", "()I"⟩
abbrev cX9_body : ByteArray := prog_11_method_84_code
def yX9_body : MethodName := ⟨RX9, "body", "(I)V"⟩
abbrev cX9_personWaits : ByteArray := prog_11_method_85_code
def yX9_personWaits : MethodName := ⟨RX9, "personWaits", "(II)I"⟩
abbrev cX9_waitsAct : ByteArray := prog_11_method_86_code
def yX9_waitsAct : MethodName := ⟨RX9, "waitsAct", "(II)I"⟩
abbrev cX9_personWalks : ByteArray := prog_11_method_87_code
def yX9_personWalks : MethodName := ⟨RX9, "personWalks", "(II)I"⟩
abbrev cX9_oldWalks : ByteArray := prog_11_method_88_code
def yX9_oldWalks : MethodName := ⟨RX9, "oldWalks", "(II)I"⟩
abbrev cX9_walksAct : ByteArray := prog_11_method_89_code
def yX9_walksAct : MethodName := ⟨RX9, "walksAct", "(II)I"⟩
abbrev cX9_personTells : ByteArray := prog_11_method_90_code
def yX9_personTells : MethodName := ⟨RX9, "personTells", "(II)I"⟩
abbrev cX9_tellsAct : ByteArray := prog_11_method_91_code
def yX9_tellsAct : MethodName := ⟨RX9, "tellsAct", "(II)I"⟩
abbrev cX9_act : ByteArray := prog_11_method_92_code
def yX9_act : MethodName := ⟨RX9, "act", "(III)I"⟩
abbrev cX9_trace : ByteArray := prog_11_method_93_code
def yX9_trace : MethodName := ⟨RX9, "trace", "(I)I"⟩
abbrev cX9_taken : ByteArray := prog_11_method_94_code
def yX9_taken : MethodName := ⟨RX9, "taken", "(II)I"⟩
abbrev cX9_count : ByteArray := prog_11_method_95_code
def yX9_count : MethodName := ⟨RX9, "count", "(I)I"⟩
abbrev cX9_isTape : ByteArray := prog_11_method_96_code
def yX9_isTape : MethodName := ⟨RX9, "isTape", "(I)Z"⟩
abbrev cX9_tape : ByteArray := prog_11_method_97_code
def yX9_tape : MethodName := ⟨RX9, "tape", "(III)I"⟩
abbrev cX9_narrow : ByteArray := prog_11_method_98_code
def yX9_narrow : MethodName := ⟨RX9, "narrow", "(IJ)J"⟩
abbrev cX9_item : ByteArray := prog_11_method_99_code
def yX9_item : MethodName := ⟨RX9, "item", "(IIJ)I"⟩
abbrev cX9_read : ByteArray := prog_11_method_100_code
def yX9_read : MethodName := ⟨RX9, "read", "(II)J"⟩
abbrev cX9_shift : ByteArray := prog_11_method_101_code
def yX9_shift : MethodName := ⟨RX9, "shift", "(IIIII)I"⟩
def RJ11 : String := "java/lang/Character"
abbrev cJ11_isValidCodePoint_9a6ad : ByteArray := prog_12_method_11_code
def yJ11_isValidCodePoint_9a6ad : MethodName := ⟨RJ11, "isValidCodePoint", "(I)Z"⟩
abbrev cJ11_highSurrogate_5068e : ByteArray := prog_12_method_28_code
def yJ11_highSurrogate_5068e : MethodName := ⟨RJ11, "highSurrogate", "(I)C"⟩
abbrev cJ11_lowSurrogate_5068e : ByteArray := prog_12_method_29_code
def yJ11_lowSurrogate_5068e : MethodName := ⟨RJ11, "lowSurrogate", "(I)C"⟩
def RJ6 : String := "java/lang/Integer"
abbrev cJ6_numberOfTrailingZeros_0f7a4 : ByteArray := prog_13_method_48_code
def yJ6_numberOfTrailingZeros_0f7a4 : MethodName := ⟨RJ6, "numberOfTrailingZeros", "(I)I"⟩
abbrev cJ6_bitCount_0f7a4 : ByteArray := prog_13_method_49_code
def yJ6_bitCount_0f7a4 : MethodName := ⟨RJ6, "bitCount", "(I)I"⟩
def RJ9 : String := "java/lang/Math"
abbrev cJ9_floorMod_7cf53 : ByteArray := prog_14_method_50_code
def yJ9_floorMod_7cf53 : MethodName := ⟨RJ9, "floorMod", "(II)I"⟩
abbrev cJ9_max_7cf53 : ByteArray := prog_14_method_65_code
def yJ9_max_7cf53 : MethodName := ⟨RJ9, "max", "(II)I"⟩
abbrev cJ9_min_7cf53 : ByteArray := prog_14_method_69_code
def yJ9_min_7cf53 : MethodName := ⟨RJ9, "min", "(II)I"⟩
def RJ0 : String := "java/lang/String"
abbrev cJ0_length_8abf5 : ByteArray := prog_15_method_54_code
def yJ0_length_8abf5 : MethodName := ⟨RJ0, "length", "()I"⟩
abbrev cJ0_charAt_5068e : ByteArray := prog_15_method_56_code
def yJ0_charAt_5068e : MethodName := ⟨RJ0, "charAt", "(I)C"⟩
abbrev cJ0_indexOf_0f7a4 : ByteArray := prog_15_method_79_code
def yJ0_indexOf_0f7a4 : MethodName := ⟨RJ0, "indexOf", "(I)I"⟩
abbrev cJ0_indexOf_7cf53 : ByteArray := prog_15_method_80_code
def yJ0_indexOf_7cf53 : MethodName := ⟨RJ0, "indexOf", "(II)I"⟩
abbrev cJ0_coder_7d493 : ByteArray := prog_15_method_152_code
def yJ0_coder_7d493 : MethodName := ⟨RJ0, "coder", "()B"⟩
abbrev cJ0_isLatin1_aae02 : ByteArray := prog_15_method_154_code
def yJ0_isLatin1_aae02 : MethodName := ⟨RJ0, "isLatin1", "()Z"⟩
abbrev cJ0_checkIndex_df160 : ByteArray := prog_15_method_155_code
def yJ0_checkIndex_df160 : MethodName := ⟨RJ0, "checkIndex", "(II)V"⟩
abbrev cJ0_checkBoundsBeginEnd_23922 : ByteArray := prog_15_method_158_code
def yJ0_checkBoundsBeginEnd_23922 : MethodName := ⟨RJ0, "checkBoundsBeginEnd", "(III)V"⟩
def RJ1 : String := "java/lang/StringLatin1"
abbrev cJ1_charAt_3b067 : ByteArray := prog_16_method_2_code
def yJ1_charAt_3b067 : MethodName := ⟨RJ1, "charAt", "([BI)C"⟩
abbrev cJ1_canEncode_9a6ad : ByteArray := prog_16_method_4_code
def yJ1_canEncode_9a6ad : MethodName := ⟨RJ1, "canEncode", "(I)Z"⟩
abbrev cJ1_indexOf_4cfef : ByteArray := prog_16_method_22_code
def yJ1_indexOf_4cfef : MethodName := ⟨RJ1, "indexOf", "([BIII)I"⟩
abbrev cJ1_indexOfChar_4cfef : ByteArray := prog_16_method_23_code
def yJ1_indexOfChar_4cfef : MethodName := ⟨RJ1, "indexOfChar", "([BIII)I"⟩
def RJ2 : String := "java/lang/StringUTF16"
abbrev cJ2_getChar_3b067 : ByteArray := prog_17_method_5_code
def yJ2_getChar_3b067 : MethodName := ⟨RJ2, "getChar", "([BI)C"⟩
abbrev cJ2_length_9d52b : ByteArray := prog_17_method_6_code
def yJ2_length_9d52b : MethodName := ⟨RJ2, "length", "([B)I"⟩
abbrev cJ2_indexOf_4cfef : ByteArray := prog_17_method_40_code
def yJ2_indexOf_4cfef : MethodName := ⟨RJ2, "indexOf", "([BIII)I"⟩
abbrev cJ2_indexOfChar_4cfef : ByteArray := prog_17_method_47_code
def yJ2_indexOfChar_4cfef : MethodName := ⟨RJ2, "indexOfChar", "([BIII)I"⟩
abbrev cJ2_indexOfCharUnsafe_4cfef : ByteArray := prog_17_method_48_code
def yJ2_indexOfCharUnsafe_4cfef : MethodName := ⟨RJ2, "indexOfCharUnsafe", "([BIII)I"⟩
abbrev cJ2_indexOfSupplementary_4cfef : ByteArray := prog_17_method_49_code
def yJ2_indexOfSupplementary_4cfef : MethodName := ⟨RJ2, "indexOfSupplementary", "([BIII)I"⟩
abbrev cJ2_charAt_3b067 : ByteArray := prog_17_method_83_code
def yJ2_charAt_3b067 : MethodName := ⟨RJ2, "charAt", "([BI)C"⟩
abbrev cJ2_checkIndex_2214a : ByteArray := prog_17_method_91_code
def yJ2_checkIndex_2214a : MethodName := ⟨RJ2, "checkIndex", "(I[B)V"⟩
abbrev cJ2_checkBoundsBeginEnd_d044e : ByteArray := prog_17_method_93_code
def yJ2_checkBoundsBeginEnd_d044e : MethodName := ⟨RJ2, "checkBoundsBeginEnd", "(II[B)V"⟩
def RJ10 : String := "java/lang/System"
def RJ3 : String := "jdk/internal/util/Preconditions"
abbrev cJ3_checkIndex_8e157 : ByteArray := prog_19_method_11_code
def yJ3_checkIndex_8e157 : MethodName := ⟨RJ3, "checkIndex", "(IILjava/util/function/BiFunction;)I"⟩
abbrev cJ3_checkFromToIndex_8c36e : ByteArray := prog_19_method_12_code
def yJ3_checkFromToIndex_8c36e : MethodName := ⟨RJ3, "checkFromToIndex", "(IIILjava/util/function/BiFunction;)I"⟩
def RL : String := "LockedAtDuskLaw"
abbrev cL_law : ByteArray := code
def yL_law : MethodName := ⟨RL, "law", "([I)Z"⟩
abbrev vwCl : List vw_C := [(RX0, TX0, 5), (RX1, TX1, 4), (RX2, TX2, 5), (RX3, TX3, 15), (RX4, TX4, 7), (RX5, TX5, 4), (RX6, TX6, 4), (RX7, TX7, 3), (RX8, TX8, 11), (RX9, TX9, 93)]
end
section
theorem dX0_init_0 : decode cX0_init 0 = .ok (.aload_n 0, 1) := by decide +kernel
theorem dX0_init_1 : decode cX0_init 1 = .ok (.invokespecial 3, 3) := by decide +kernel
theorem dX0_init_4 : decode cX0_init 4 = .ok (.aload_n 0, 1) := by decide +kernel
theorem dX0_init_5 : decode cX0_init 5 = .ok (.bipush 20, 2) := by decide +kernel
theorem dX0_init_7 : decode cX0_init 7 = .ok (.newarray .int, 2) := by decide +kernel
theorem dX0_init_9 : decode cX0_init 9 = .ok (.putfield 9, 3) := by decide +kernel
theorem dX0_init_12 : decode cX0_init 12 = .ok (.return_, 1) := by decide +kernel
theorem dX0_begin_0 : decode cX0_begin 0 = .ok (.aload_n 0, 1) := by decide +kernel
theorem dX0_begin_1 : decode cX0_begin 1 = .ok (.iload_n 1, 1) := by decide +kernel
theorem dX0_begin_2 : decode cX0_begin 2 = .ok (.putfield 15, 3) := by decide +kernel
theorem dX0_begin_5 : decode cX0_begin 5 = .ok (.aload_n 0, 1) := by decide +kernel
theorem dX0_begin_6 : decode cX0_begin 6 = .ok (.aload_n 2, 1) := by decide +kernel
theorem dX0_begin_7 : decode cX0_begin 7 = .ok (.getfield 19, 3) := by decide +kernel
theorem dX0_begin_10 : decode cX0_begin 10 = .ok (.putfield 24, 3) := by decide +kernel
theorem dX0_begin_13 : decode cX0_begin 13 = .ok (.aload_n 0, 1) := by decide +kernel
theorem dX0_begin_14 : decode cX0_begin 14 = .ok (.aload_n 2, 1) := by decide +kernel
theorem dX0_begin_15 : decode cX0_begin 15 = .ok (.getfield 25, 3) := by decide +kernel
theorem dX0_begin_18 : decode cX0_begin 18 = .ok (.putfield 28, 3) := by decide +kernel
theorem dX0_begin_21 : decode cX0_begin 21 = .ok (.aload_n 0, 1) := by decide +kernel
theorem dX0_begin_22 : decode cX0_begin 22 = .ok (.aload_n 0, 1) := by decide +kernel
theorem dX0_begin_23 : decode cX0_begin 23 = .ok (.getfield 24, 3) := by decide +kernel
theorem dX0_begin_26 : decode cX0_begin 26 = .ok (.iload_n 3, 1) := by decide +kernel
theorem dX0_begin_27 : decode cX0_begin 27 = .ok (.iload 4, 2) := by decide +kernel
theorem dX0_begin_29 : decode cX0_begin 29 = .ok (.iconst 0, 1) := by decide +kernel
theorem dX0_begin_30 : decode cX0_begin 30 = .ok (.invokevirtual 29, 3) := by decide +kernel
theorem dX0_begin_33 : decode cX0_begin 33 = .ok (.ireturn, 1) := by decide +kernel
theorem dX0_run_0 : decode cX0_run 0 = .ok (.iload 4, 2) := by decide +kernel
theorem dX0_run_2 : decode cX0_run 2 = .ok (.bipush 40, 2) := by decide +kernel
theorem dX0_run_4 : decode cX0_run 4 = .ok (.if_icmp .le 5, 3) := by decide +kernel
theorem dX0_run_7 : decode cX0_run 7 = .ok (.iconst 0, 1) := by decide +kernel
theorem dX0_run_8 : decode cX0_run 8 = .ok (.ireturn, 1) := by decide +kernel
theorem dX0_run_9 : decode cX0_run 9 = .ok (.iload_n 1, 1) := by decide +kernel
theorem dX0_run_10 : decode cX0_run 10 = .ok (.iload_n 2, 1) := by decide +kernel
theorem dX0_run_11 : decode cX0_run 11 = .ok (.invokestatic 33, 3) := by decide +kernel
theorem dX0_run_14 : decode cX0_run 14 = .ok (.istore 5, 2) := by decide +kernel
theorem dX0_run_16 : decode cX0_run 16 = .ok (.aload_n 0, 1) := by decide +kernel
theorem dX0_run_17 : decode cX0_run 17 = .ok (.iload 5, 2) := by decide +kernel
theorem dX0_run_19 : decode cX0_run 19 = .ok (.invokevirtual 37, 3) := by decide +kernel
theorem dX0_run_22 : decode cX0_run 22 = .ok (.aload_n 0, 1) := by decide +kernel
theorem dX0_run_23 : decode cX0_run 23 = .ok (.iload 5, 2) := by decide +kernel
theorem dX0_run_25 : decode cX0_run 25 = .ok (.iload_n 3, 1) := by decide +kernel
theorem dX0_run_26 : decode cX0_run 26 = .ok (.iload 4, 2) := by decide +kernel
theorem dX0_run_28 : decode cX0_run 28 = .ok (.iconst 1, 1) := by decide +kernel
theorem dX0_run_29 : decode cX0_run 29 = .ok (.iadd, 1) := by decide +kernel
theorem dX0_run_30 : decode cX0_run 30 = .ok (.invokevirtual 41, 3) := by decide +kernel
theorem dX0_run_33 : decode cX0_run 33 = .ok (.ireturn, 1) := by decide +kernel
theorem dX0_answerOf_0 : decode cX0_answerOf 0 = .ok (.iload_n 1, 1) := by decide +kernel
theorem dX0_answerOf_1 : decode cX0_answerOf 1 = .ok (.lookupswitch 260 #[(10, 91), (11, 98), (12, 115), (20, 129), (30, 145), (40, 160), (50, 185), (51, 199), (60, 214), (70, 232)], 91) := by decide +kernel
theorem dX0_answerOf_92 : decode cX0_answerOf 92 = .ok (.iload_n 2, 1) := by decide +kernel
theorem dX0_answerOf_93 : decode cX0_answerOf 93 = .ok (.aload_n 0, 1) := by decide +kernel
theorem dX0_answerOf_94 : decode cX0_answerOf 94 = .ok (.getfield 15, 3) := by decide +kernel
theorem dX0_answerOf_97 : decode cX0_answerOf 97 = .ok (.iadd, 1) := by decide +kernel
theorem dX0_answerOf_98 : decode cX0_answerOf 98 = .ok (.ireturn, 1) := by decide +kernel
theorem dX0_answerOf_99 : decode cX0_answerOf 99 = .ok (.aload_n 0, 1) := by decide +kernel
theorem dX0_answerOf_100 : decode cX0_answerOf 100 = .ok (.aload_n 0, 1) := by decide +kernel
theorem dX0_answerOf_101 : decode cX0_answerOf 101 = .ok (.getfield 24, 3) := by decide +kernel
theorem dX0_answerOf_104 : decode cX0_answerOf 104 = .ok (.iconst 0, 1) := by decide +kernel
theorem dX0_answerOf_105 : decode cX0_answerOf 105 = .ok (.iload_n 2, 1) := by decide +kernel
theorem dX0_answerOf_106 : decode cX0_answerOf 106 = .ok (.iload_n 3, 1) := by decide +kernel
theorem dX0_answerOf_107 : decode cX0_answerOf 107 = .ok (.invokevirtual 29, 3) := by decide +kernel
theorem dX0_answerOf_110 : decode cX0_answerOf 110 = .ok (.aload_n 0, 1) := by decide +kernel
theorem dX0_answerOf_111 : decode cX0_answerOf 111 = .ok (.getfield 28, 3) := by decide +kernel
theorem dX0_answerOf_114 : decode cX0_answerOf 114 = .ok (.isub, 1) := by decide +kernel
theorem dX0_answerOf_115 : decode cX0_answerOf 115 = .ok (.ireturn, 1) := by decide +kernel
theorem dX0_answerOf_116 : decode cX0_answerOf 116 = .ok (.aload_n 0, 1) := by decide +kernel
theorem dX0_answerOf_117 : decode cX0_answerOf 117 = .ok (.aload_n 0, 1) := by decide +kernel
theorem dX0_answerOf_118 : decode cX0_answerOf 118 = .ok (.getfield 24, 3) := by decide +kernel
theorem dX0_answerOf_121 : decode cX0_answerOf 121 = .ok (.iconst 1, 1) := by decide +kernel
theorem dX0_answerOf_122 : decode cX0_answerOf 122 = .ok (.iload_n 2, 1) := by decide +kernel
theorem dX0_answerOf_123 : decode cX0_answerOf 123 = .ok (.iload_n 3, 1) := by decide +kernel
theorem dX0_answerOf_124 : decode cX0_answerOf 124 = .ok (.invokevirtual 29, 3) := by decide +kernel
theorem dX0_answerOf_127 : decode cX0_answerOf 127 = .ok (.iconst 2, 1) := by decide +kernel
theorem dX0_answerOf_128 : decode cX0_answerOf 128 = .ok (.imul, 1) := by decide +kernel
theorem dX0_answerOf_129 : decode cX0_answerOf 129 = .ok (.ireturn, 1) := by decide +kernel
theorem dX0_answerOf_130 : decode cX0_answerOf 130 = .ok (.aload_n 0, 1) := by decide +kernel
theorem dX0_answerOf_131 : decode cX0_answerOf 131 = .ok (.getstatic 45, 3) := by decide +kernel
theorem dX0_answerOf_134 : decode cX0_answerOf 134 = .ok (.iconst 1, 1) := by decide +kernel
theorem dX0_answerOf_135 : decode cX0_answerOf 135 = .ok (.iaload, 1) := by decide +kernel
theorem dX0_answerOf_136 : decode cX0_answerOf 136 = .ok (.iconst 1, 1) := by decide +kernel
theorem dX0_answerOf_137 : decode cX0_answerOf 137 = .ok (.iload_n 2, 1) := by decide +kernel
theorem dX0_answerOf_138 : decode cX0_answerOf 138 = .ok (.iload_n 3, 1) := by decide +kernel
theorem dX0_answerOf_139 : decode cX0_answerOf 139 = .ok (.invokevirtual 29, 3) := by decide +kernel
theorem dX0_answerOf_142 : decode cX0_answerOf 142 = .ok (.bipush 6, 2) := by decide +kernel
theorem dX0_answerOf_144 : decode cX0_answerOf 144 = .ok (.ixor, 1) := by decide +kernel
theorem dX0_answerOf_145 : decode cX0_answerOf 145 = .ok (.ireturn, 1) := by decide +kernel
theorem dX0_answerOf_146 : decode cX0_answerOf 146 = .ok (.aload_n 0, 1) := by decide +kernel
theorem dX0_answerOf_147 : decode cX0_answerOf 147 = .ok (.getstatic 45, 3) := by decide +kernel
theorem dX0_answerOf_150 : decode cX0_answerOf 150 = .ok (.iconst 2, 1) := by decide +kernel
theorem dX0_answerOf_151 : decode cX0_answerOf 151 = .ok (.iaload, 1) := by decide +kernel
theorem dX0_answerOf_152 : decode cX0_answerOf 152 = .ok (.iconst 0, 1) := by decide +kernel
theorem dX0_answerOf_153 : decode cX0_answerOf 153 = .ok (.iload_n 2, 1) := by decide +kernel
theorem dX0_answerOf_154 : decode cX0_answerOf 154 = .ok (.iconst 3, 1) := by decide +kernel
theorem dX0_answerOf_155 : decode cX0_answerOf 155 = .ok (.imul, 1) := by decide +kernel
theorem dX0_answerOf_156 : decode cX0_answerOf 156 = .ok (.iload_n 3, 1) := by decide +kernel
theorem dX0_answerOf_157 : decode cX0_answerOf 157 = .ok (.invokevirtual 29, 3) := by decide +kernel
theorem dX0_answerOf_160 : decode cX0_answerOf 160 = .ok (.ireturn, 1) := by decide +kernel
theorem dX0_answerOf_161 : decode cX0_answerOf 161 = .ok (.aload_n 0, 1) := by decide +kernel
theorem dX0_answerOf_162 : decode cX0_answerOf 162 = .ok (.getstatic 45, 3) := by decide +kernel
theorem dX0_answerOf_165 : decode cX0_answerOf 165 = .ok (.iconst 3, 1) := by decide +kernel
theorem dX0_answerOf_166 : decode cX0_answerOf 166 = .ok (.iaload, 1) := by decide +kernel
theorem dX0_answerOf_167 : decode cX0_answerOf 167 = .ok (.iconst 2, 1) := by decide +kernel
theorem dX0_answerOf_168 : decode cX0_answerOf 168 = .ok (.iload_n 2, 1) := by decide +kernel
theorem dX0_answerOf_169 : decode cX0_answerOf 169 = .ok (.iload_n 3, 1) := by decide +kernel
theorem dX0_answerOf_170 : decode cX0_answerOf 170 = .ok (.invokevirtual 29, 3) := by decide +kernel
theorem dX0_answerOf_173 : decode cX0_answerOf 173 = .ok (.aload_n 0, 1) := by decide +kernel
theorem dX0_answerOf_174 : decode cX0_answerOf 174 = .ok (.aload_n 0, 1) := by decide +kernel
theorem dX0_answerOf_175 : decode cX0_answerOf 175 = .ok (.getfield 24, 3) := by decide +kernel
theorem dX0_answerOf_178 : decode cX0_answerOf 178 = .ok (.iconst 1, 1) := by decide +kernel
theorem dX0_answerOf_179 : decode cX0_answerOf 179 = .ok (.iconst 1, 1) := by decide +kernel
theorem dX0_answerOf_180 : decode cX0_answerOf 180 = .ok (.iload_n 3, 1) := by decide +kernel
theorem dX0_answerOf_181 : decode cX0_answerOf 181 = .ok (.invokevirtual 29, 3) := by decide +kernel
theorem dX0_answerOf_184 : decode cX0_answerOf 184 = .ok (.iadd, 1) := by decide +kernel
theorem dX0_answerOf_185 : decode cX0_answerOf 185 = .ok (.ireturn, 1) := by decide +kernel
theorem dX0_answerOf_186 : decode cX0_answerOf 186 = .ok (.aload_n 0, 1) := by decide +kernel
theorem dX0_answerOf_187 : decode cX0_answerOf 187 = .ok (.getstatic 45, 3) := by decide +kernel
theorem dX0_answerOf_190 : decode cX0_answerOf 190 = .ok (.iconst 4, 1) := by decide +kernel
theorem dX0_answerOf_191 : decode cX0_answerOf 191 = .ok (.iaload, 1) := by decide +kernel
theorem dX0_answerOf_192 : decode cX0_answerOf 192 = .ok (.iconst 0, 1) := by decide +kernel
theorem dX0_answerOf_193 : decode cX0_answerOf 193 = .ok (.iload_n 2, 1) := by decide +kernel
theorem dX0_answerOf_194 : decode cX0_answerOf 194 = .ok (.iload_n 3, 1) := by decide +kernel
theorem dX0_answerOf_195 : decode cX0_answerOf 195 = .ok (.invokevirtual 29, 3) := by decide +kernel
theorem dX0_answerOf_198 : decode cX0_answerOf 198 = .ok (.ineg, 1) := by decide +kernel
theorem dX0_answerOf_199 : decode cX0_answerOf 199 = .ok (.ireturn, 1) := by decide +kernel
theorem dX0_answerOf_200 : decode cX0_answerOf 200 = .ok (.aload_n 0, 1) := by decide +kernel
theorem dX0_answerOf_201 : decode cX0_answerOf 201 = .ok (.getstatic 45, 3) := by decide +kernel
theorem dX0_answerOf_204 : decode cX0_answerOf 204 = .ok (.iconst 4, 1) := by decide +kernel
theorem dX0_answerOf_205 : decode cX0_answerOf 205 = .ok (.iaload, 1) := by decide +kernel
theorem dX0_answerOf_206 : decode cX0_answerOf 206 = .ok (.iconst 1, 1) := by decide +kernel
theorem dX0_answerOf_207 : decode cX0_answerOf 207 = .ok (.iload_n 2, 1) := by decide +kernel
theorem dX0_answerOf_208 : decode cX0_answerOf 208 = .ok (.iconst 1, 1) := by decide +kernel
theorem dX0_answerOf_209 : decode cX0_answerOf 209 = .ok (.iadd, 1) := by decide +kernel
theorem dX0_answerOf_210 : decode cX0_answerOf 210 = .ok (.iload_n 3, 1) := by decide +kernel
theorem dX0_answerOf_211 : decode cX0_answerOf 211 = .ok (.invokevirtual 29, 3) := by decide +kernel
theorem dX0_answerOf_214 : decode cX0_answerOf 214 = .ok (.ireturn, 1) := by decide +kernel
theorem dX0_answerOf_215 : decode cX0_answerOf 215 = .ok (.aload_n 0, 1) := by decide +kernel
theorem dX0_answerOf_216 : decode cX0_answerOf 216 = .ok (.getstatic 45, 3) := by decide +kernel
theorem dX0_answerOf_219 : decode cX0_answerOf 219 = .ok (.iconst 5, 1) := by decide +kernel
theorem dX0_answerOf_220 : decode cX0_answerOf 220 = .ok (.iaload, 1) := by decide +kernel
theorem dX0_answerOf_221 : decode cX0_answerOf 221 = .ok (.iconst 2, 1) := by decide +kernel
theorem dX0_answerOf_222 : decode cX0_answerOf 222 = .ok (.iload_n 2, 1) := by decide +kernel
theorem dX0_answerOf_223 : decode cX0_answerOf 223 = .ok (.aload_n 0, 1) := by decide +kernel
theorem dX0_answerOf_224 : decode cX0_answerOf 224 = .ok (.getfield 15, 3) := by decide +kernel
theorem dX0_answerOf_227 : decode cX0_answerOf 227 = .ok (.isub, 1) := by decide +kernel
theorem dX0_answerOf_228 : decode cX0_answerOf 228 = .ok (.iload_n 3, 1) := by decide +kernel
theorem dX0_answerOf_229 : decode cX0_answerOf 229 = .ok (.invokevirtual 29, 3) := by decide +kernel
theorem dX0_answerOf_232 : decode cX0_answerOf 232 = .ok (.ireturn, 1) := by decide +kernel
theorem dX0_answerOf_233 : decode cX0_answerOf 233 = .ok (.aload_n 0, 1) := by decide +kernel
theorem dX0_answerOf_234 : decode cX0_answerOf 234 = .ok (.getstatic 45, 3) := by decide +kernel
theorem dX0_answerOf_237 : decode cX0_answerOf 237 = .ok (.bipush 6, 2) := by decide +kernel
theorem dX0_answerOf_239 : decode cX0_answerOf 239 = .ok (.iaload, 1) := by decide +kernel
theorem dX0_answerOf_240 : decode cX0_answerOf 240 = .ok (.iconst 1, 1) := by decide +kernel
theorem dX0_answerOf_241 : decode cX0_answerOf 241 = .ok (.iload_n 2, 1) := by decide +kernel
theorem dX0_answerOf_242 : decode cX0_answerOf 242 = .ok (.iload_n 3, 1) := by decide +kernel
theorem dX0_answerOf_243 : decode cX0_answerOf 243 = .ok (.invokevirtual 29, 3) := by decide +kernel
theorem dX0_answerOf_246 : decode cX0_answerOf 246 = .ok (.aload_n 0, 1) := by decide +kernel
theorem dX0_answerOf_247 : decode cX0_answerOf 247 = .ok (.getstatic 45, 3) := by decide +kernel
theorem dX0_answerOf_250 : decode cX0_answerOf 250 = .ok (.bipush 6, 2) := by decide +kernel
theorem dX0_answerOf_252 : decode cX0_answerOf 252 = .ok (.iaload, 1) := by decide +kernel
theorem dX0_answerOf_253 : decode cX0_answerOf 253 = .ok (.iconst 0, 1) := by decide +kernel
theorem dX0_answerOf_254 : decode cX0_answerOf 254 = .ok (.iconst 2, 1) := by decide +kernel
theorem dX0_answerOf_255 : decode cX0_answerOf 255 = .ok (.iload_n 3, 1) := by decide +kernel
theorem dX0_answerOf_256 : decode cX0_answerOf 256 = .ok (.invokevirtual 29, 3) := by decide +kernel
theorem dX0_answerOf_259 : decode cX0_answerOf 259 = .ok (.iadd, 1) := by decide +kernel
theorem dX0_answerOf_260 : decode cX0_answerOf 260 = .ok (.ireturn, 1) := by decide +kernel
theorem dX0_answerOf_261 : decode cX0_answerOf 261 = .ok (.aload_n 0, 1) := by decide +kernel
theorem dX0_answerOf_262 : decode cX0_answerOf 262 = .ok (.getstatic 45, 3) := by decide +kernel
theorem dX0_answerOf_265 : decode cX0_answerOf 265 = .ok (.bipush 6, 2) := by decide +kernel
theorem dX0_answerOf_267 : decode cX0_answerOf 267 = .ok (.iaload, 1) := by decide +kernel
theorem dX0_answerOf_268 : decode cX0_answerOf 268 = .ok (.iconst 0, 1) := by decide +kernel
theorem dX0_answerOf_269 : decode cX0_answerOf 269 = .ok (.iload_n 2, 1) := by decide +kernel
theorem dX0_answerOf_270 : decode cX0_answerOf 270 = .ok (.iload_n 3, 1) := by decide +kernel
theorem dX0_answerOf_271 : decode cX0_answerOf 271 = .ok (.invokevirtual 29, 3) := by decide +kernel
theorem dX0_answerOf_274 : decode cX0_answerOf 274 = .ok (.aload_n 0, 1) := by decide +kernel
theorem dX0_answerOf_275 : decode cX0_answerOf 275 = .ok (.getfield 28, 3) := by decide +kernel
theorem dX0_answerOf_278 : decode cX0_answerOf 278 = .ok (.ixor, 1) := by decide +kernel
theorem dX0_answerOf_279 : decode cX0_answerOf 279 = .ok (.ireturn, 1) := by decide +kernel
theorem dX0_bodyOf_0 : decode cX0_bodyOf 0 = .ok (.iload_n 0, 1) := by decide +kernel
theorem dX0_bodyOf_1 : decode cX0_bodyOf 1 = .ok (.istore_n 2, 1) := by decide +kernel
theorem dX0_bodyOf_2 : decode cX0_bodyOf 2 = .ok (.iconst 0, 1) := by decide +kernel
theorem dX0_bodyOf_3 : decode cX0_bodyOf 3 = .ok (.istore_n 3, 1) := by decide +kernel
theorem dX0_bodyOf_4 : decode cX0_bodyOf 4 = .ok (.iload_n 3, 1) := by decide +kernel
theorem dX0_bodyOf_5 : decode cX0_bodyOf 5 = .ok (.bipush 7, 2) := by decide +kernel
theorem dX0_bodyOf_7 : decode cX0_bodyOf 7 = .ok (.if_icmp .ge 31, 3) := by decide +kernel
theorem dX0_bodyOf_10 : decode cX0_bodyOf 10 = .ok (.iload_n 2, 1) := by decide +kernel
theorem dX0_bodyOf_11 : decode cX0_bodyOf 11 = .ok (.ifCond .le 27, 3) := by decide +kernel
theorem dX0_bodyOf_14 : decode cX0_bodyOf 14 = .ok (.getstatic 48, 3) := by decide +kernel
theorem dX0_bodyOf_17 : decode cX0_bodyOf 17 = .ok (.iload_n 2, 1) := by decide +kernel
theorem dX0_bodyOf_18 : decode cX0_bodyOf 18 = .ok (.iconst 3, 1) := by decide +kernel
theorem dX0_bodyOf_19 : decode cX0_bodyOf 19 = .ok (.imul, 1) := by decide +kernel
theorem dX0_bodyOf_20 : decode cX0_bodyOf 20 = .ok (.iload_n 1, 1) := by decide +kernel
theorem dX0_bodyOf_21 : decode cX0_bodyOf 21 = .ok (.iadd, 1) := by decide +kernel
theorem dX0_bodyOf_22 : decode cX0_bodyOf 22 = .ok (.iaload, 1) := by decide +kernel
theorem dX0_bodyOf_23 : decode cX0_bodyOf 23 = .ok (.ifCond .ne 15, 3) := by decide +kernel
theorem dX0_bodyOf_26 : decode cX0_bodyOf 26 = .ok (.getstatic 45, 3) := by decide +kernel
theorem dX0_bodyOf_29 : decode cX0_bodyOf 29 = .ok (.iload_n 2, 1) := by decide +kernel
theorem dX0_bodyOf_30 : decode cX0_bodyOf 30 = .ok (.iaload, 1) := by decide +kernel
theorem dX0_bodyOf_31 : decode cX0_bodyOf 31 = .ok (.istore_n 2, 1) := by decide +kernel
theorem dX0_bodyOf_32 : decode cX0_bodyOf 32 = .ok (.iinc 3 1, 3) := by decide +kernel
theorem dX0_bodyOf_35 : decode cX0_bodyOf 35 = .ok (.goto (-31), 3) := by decide +kernel
theorem dX0_bodyOf_38 : decode cX0_bodyOf 38 = .ok (.getstatic 48, 3) := by decide +kernel
theorem dX0_bodyOf_41 : decode cX0_bodyOf 41 = .ok (.iload_n 2, 1) := by decide +kernel
theorem dX0_bodyOf_42 : decode cX0_bodyOf 42 = .ok (.iconst 3, 1) := by decide +kernel
theorem dX0_bodyOf_43 : decode cX0_bodyOf 43 = .ok (.imul, 1) := by decide +kernel
theorem dX0_bodyOf_44 : decode cX0_bodyOf 44 = .ok (.iload_n 1, 1) := by decide +kernel
theorem dX0_bodyOf_45 : decode cX0_bodyOf 45 = .ok (.iadd, 1) := by decide +kernel
theorem dX0_bodyOf_46 : decode cX0_bodyOf 46 = .ok (.iaload, 1) := by decide +kernel
theorem dX0_bodyOf_47 : decode cX0_bodyOf 47 = .ok (.ireturn, 1) := by decide +kernel
theorem dX0_keep_0 : decode cX0_keep 0 = .ok (.aload_n 0, 1) := by decide +kernel
theorem dX0_keep_1 : decode cX0_keep 1 = .ok (.getfield 51, 3) := by decide +kernel
theorem dX0_keep_4 : decode cX0_keep 4 = .ok (.bipush 20, 2) := by decide +kernel
theorem dX0_keep_6 : decode cX0_keep 6 = .ok (.if_icmp .ge 13, 3) := by decide +kernel
theorem dX0_keep_9 : decode cX0_keep 9 = .ok (.aload_n 0, 1) := by decide +kernel
theorem dX0_keep_10 : decode cX0_keep 10 = .ok (.getfield 9, 3) := by decide +kernel
theorem dX0_keep_13 : decode cX0_keep 13 = .ok (.aload_n 0, 1) := by decide +kernel
theorem dX0_keep_14 : decode cX0_keep 14 = .ok (.getfield 51, 3) := by decide +kernel
theorem dX0_keep_17 : decode cX0_keep 17 = .ok (.iload_n 1, 1) := by decide +kernel
theorem dX0_keep_18 : decode cX0_keep 18 = .ok (.iastore, 1) := by decide +kernel
theorem dX0_keep_19 : decode cX0_keep 19 = .ok (.aload_n 0, 1) := by decide +kernel
theorem dX0_keep_20 : decode cX0_keep 20 = .ok (.dup, 1) := by decide +kernel
theorem dX0_keep_21 : decode cX0_keep 21 = .ok (.getfield 51, 3) := by decide +kernel
theorem dX0_keep_24 : decode cX0_keep 24 = .ok (.iconst 1, 1) := by decide +kernel
theorem dX0_keep_25 : decode cX0_keep 25 = .ok (.iadd, 1) := by decide +kernel
theorem dX0_keep_26 : decode cX0_keep 26 = .ok (.putfield 51, 3) := by decide +kernel
theorem dX0_keep_29 : decode cX0_keep 29 = .ok (.return_, 1) := by decide +kernel
theorem dX1_init_0 : decode cX1_init 0 = .ok (.aload_n 0, 1) := by decide +kernel
theorem dX1_init_1 : decode cX1_init 1 = .ok (.invokespecial 3, 3) := by decide +kernel
theorem dX1_init_4 : decode cX1_init 4 = .ok (.aload_n 0, 1) := by decide +kernel
theorem dX1_init_5 : decode cX1_init 5 = .ok (.bipush 100, 2) := by decide +kernel
theorem dX1_init_7 : decode cX1_init 7 = .ok (.newarray .int, 2) := by decide +kernel
theorem dX1_init_9 : decode cX1_init 9 = .ok (.putfield 9, 3) := by decide +kernel
theorem dX1_init_12 : decode cX1_init 12 = .ok (.aload_n 0, 1) := by decide +kernel
theorem dX1_init_13 : decode cX1_init 13 = .ok (.bipush 8, 2) := by decide +kernel
theorem dX1_init_15 : decode cX1_init 15 = .ok (.putfield 15, 3) := by decide +kernel
theorem dX1_init_18 : decode cX1_init 18 = .ok (.aload_n 0, 1) := by decide +kernel
theorem dX1_init_19 : decode cX1_init 19 = .ok (.iconst 3, 1) := by decide +kernel
theorem dX1_init_20 : decode cX1_init 20 = .ok (.putfield 19, 3) := by decide +kernel
theorem dX1_init_23 : decode cX1_init 23 = .ok (.return_, 1) := by decide +kernel
theorem dX1_empty_0 : decode cX1_empty 0 = .ok (.aload_n 0, 1) := by decide +kernel
theorem dX1_empty_1 : decode cX1_empty 1 = .ok (.iconst 0, 1) := by decide +kernel
theorem dX1_empty_2 : decode cX1_empty 2 = .ok (.putfield 22, 3) := by decide +kernel
theorem dX1_empty_5 : decode cX1_empty 5 = .ok (.aload_n 0, 1) := by decide +kernel
theorem dX1_empty_6 : decode cX1_empty 6 = .ok (.bipush 8, 2) := by decide +kernel
theorem dX1_empty_8 : decode cX1_empty 8 = .ok (.putfield 15, 3) := by decide +kernel
theorem dX1_empty_11 : decode cX1_empty 11 = .ok (.aload_n 0, 1) := by decide +kernel
theorem dX1_empty_12 : decode cX1_empty 12 = .ok (.iconst 3, 1) := by decide +kernel
theorem dX1_empty_13 : decode cX1_empty 13 = .ok (.putfield 19, 3) := by decide +kernel
theorem dX1_empty_16 : decode cX1_empty 16 = .ok (.return_, 1) := by decide +kernel
theorem dX1_addCode_0 : decode cX1_addCode 0 = .ok (.aload_n 0, 1) := by decide +kernel
theorem dX1_addCode_1 : decode cX1_addCode 1 = .ok (.getfield 22, 3) := by decide +kernel
theorem dX1_addCode_4 : decode cX1_addCode 4 = .ok (.aload_n 0, 1) := by decide +kernel
theorem dX1_addCode_5 : decode cX1_addCode 5 = .ok (.getfield 9, 3) := by decide +kernel
theorem dX1_addCode_8 : decode cX1_addCode 8 = .ok (.arraylength, 1) := by decide +kernel
theorem dX1_addCode_9 : decode cX1_addCode 9 = .ok (.if_icmp .ge 23, 3) := by decide +kernel
theorem dX1_addCode_12 : decode cX1_addCode 12 = .ok (.aload_n 0, 1) := by decide +kernel
theorem dX1_addCode_13 : decode cX1_addCode 13 = .ok (.getfield 9, 3) := by decide +kernel
theorem dX1_addCode_16 : decode cX1_addCode 16 = .ok (.aload_n 0, 1) := by decide +kernel
theorem dX1_addCode_17 : decode cX1_addCode 17 = .ok (.getfield 22, 3) := by decide +kernel
theorem dX1_addCode_20 : decode cX1_addCode 20 = .ok (.iload_n 1, 1) := by decide +kernel
theorem dX1_addCode_21 : decode cX1_addCode 21 = .ok (.iastore, 1) := by decide +kernel
theorem dX1_addCode_22 : decode cX1_addCode 22 = .ok (.aload_n 0, 1) := by decide +kernel
theorem dX1_addCode_23 : decode cX1_addCode 23 = .ok (.dup, 1) := by decide +kernel
theorem dX1_addCode_24 : decode cX1_addCode 24 = .ok (.getfield 22, 3) := by decide +kernel
theorem dX1_addCode_27 : decode cX1_addCode 27 = .ok (.iconst 1, 1) := by decide +kernel
theorem dX1_addCode_28 : decode cX1_addCode 28 = .ok (.iadd, 1) := by decide +kernel
theorem dX1_addCode_29 : decode cX1_addCode 29 = .ok (.putfield 22, 3) := by decide +kernel
theorem dX1_addCode_32 : decode cX1_addCode 32 = .ok (.return_, 1) := by decide +kernel
theorem dX1_earsBy_0 : decode cX1_earsBy 0 = .ok (.iconst 0, 1) := by decide +kernel
theorem dX1_earsBy_1 : decode cX1_earsBy 1 = .ok (.istore_n 2, 1) := by decide +kernel
theorem dX1_earsBy_2 : decode cX1_earsBy 2 = .ok (.iconst 0, 1) := by decide +kernel
theorem dX1_earsBy_3 : decode cX1_earsBy 3 = .ok (.istore_n 3, 1) := by decide +kernel
theorem dX1_earsBy_4 : decode cX1_earsBy 4 = .ok (.iconst 0, 1) := by decide +kernel
theorem dX1_earsBy_5 : decode cX1_earsBy 5 = .ok (.istore 4, 2) := by decide +kernel
theorem dX1_earsBy_7 : decode cX1_earsBy 7 = .ok (.iload 4, 2) := by decide +kernel
theorem dX1_earsBy_9 : decode cX1_earsBy 9 = .ok (.aload_n 0, 1) := by decide +kernel
theorem dX1_earsBy_10 : decode cX1_earsBy 10 = .ok (.getfield 22, 3) := by decide +kernel
theorem dX1_earsBy_13 : decode cX1_earsBy 13 = .ok (.if_icmp .ge 141, 3) := by decide +kernel
theorem dX1_earsBy_16 : decode cX1_earsBy 16 = .ok (.aload_n 0, 1) := by decide +kernel
theorem dX1_earsBy_17 : decode cX1_earsBy 17 = .ok (.getfield 9, 3) := by decide +kernel
theorem dX1_earsBy_20 : decode cX1_earsBy 20 = .ok (.iload 4, 2) := by decide +kernel
theorem dX1_earsBy_22 : decode cX1_earsBy 22 = .ok (.iaload, 1) := by decide +kernel
theorem dX1_earsBy_23 : decode cX1_earsBy 23 = .ok (.istore 5, 2) := by decide +kernel
theorem dX1_earsBy_25 : decode cX1_earsBy 25 = .ok (.iload_n 3, 1) := by decide +kernel
theorem dX1_earsBy_26 : decode cX1_earsBy 26 = .ok (.iconst 1, 1) := by decide +kernel
theorem dX1_earsBy_27 : decode cX1_earsBy 27 = .ok (.iand, 1) := by decide +kernel
theorem dX1_earsBy_28 : decode cX1_earsBy 28 = .ok (.istore 6, 2) := by decide +kernel
theorem dX1_earsBy_30 : decode cX1_earsBy 30 = .ok (.iload 5, 2) := by decide +kernel
theorem dX1_earsBy_32 : decode cX1_earsBy 32 = .ok (.sipush 3000, 3) := by decide +kernel
theorem dX1_earsBy_35 : decode cX1_earsBy 35 = .ok (.if_icmp .lt 22, 3) := by decide +kernel
theorem dX1_earsBy_38 : decode cX1_earsBy 38 = .ok (.iload_n 2, 1) := by decide +kernel
theorem dX1_earsBy_39 : decode cX1_earsBy 39 = .ok (.iload 6, 2) := by decide +kernel
theorem dX1_earsBy_41 : decode cX1_earsBy 41 = .ok (.iload 5, 2) := by decide +kernel
theorem dX1_earsBy_43 : decode cX1_earsBy 43 = .ok (.sipush 3000, 3) := by decide +kernel
theorem dX1_earsBy_46 : decode cX1_earsBy 46 = .ok (.isub, 1) := by decide +kernel
theorem dX1_earsBy_47 : decode cX1_earsBy 47 = .ok (.imul, 1) := by decide +kernel
theorem dX1_earsBy_48 : decode cX1_earsBy 48 = .ok (.isub, 1) := by decide +kernel
theorem dX1_earsBy_49 : decode cX1_earsBy 49 = .ok (.istore_n 2, 1) := by decide +kernel
theorem dX1_earsBy_50 : decode cX1_earsBy 50 = .ok (.iload_n 3, 1) := by decide +kernel
theorem dX1_earsBy_51 : decode cX1_earsBy 51 = .ok (.iconst 1, 1) := by decide +kernel
theorem dX1_earsBy_52 : decode cX1_earsBy 52 = .ok (.ishr, 1) := by decide +kernel
theorem dX1_earsBy_53 : decode cX1_earsBy 53 = .ok (.istore_n 3, 1) := by decide +kernel
theorem dX1_earsBy_54 : decode cX1_earsBy 54 = .ok (.goto 94, 3) := by decide +kernel
theorem dX1_earsBy_57 : decode cX1_earsBy 57 = .ok (.iload 5, 2) := by decide +kernel
theorem dX1_earsBy_59 : decode cX1_earsBy 59 = .ok (.sipush 2000, 3) := by decide +kernel
theorem dX1_earsBy_62 : decode cX1_earsBy 62 = .ok (.if_icmp .lt 22, 3) := by decide +kernel
theorem dX1_earsBy_65 : decode cX1_earsBy 65 = .ok (.iload_n 2, 1) := by decide +kernel
theorem dX1_earsBy_66 : decode cX1_earsBy 66 = .ok (.iload 6, 2) := by decide +kernel
theorem dX1_earsBy_68 : decode cX1_earsBy 68 = .ok (.iload 5, 2) := by decide +kernel
theorem dX1_earsBy_70 : decode cX1_earsBy 70 = .ok (.sipush 2000, 3) := by decide +kernel
theorem dX1_earsBy_73 : decode cX1_earsBy 73 = .ok (.isub, 1) := by decide +kernel
theorem dX1_earsBy_74 : decode cX1_earsBy 74 = .ok (.imul, 1) := by decide +kernel
theorem dX1_earsBy_75 : decode cX1_earsBy 75 = .ok (.iadd, 1) := by decide +kernel
theorem dX1_earsBy_76 : decode cX1_earsBy 76 = .ok (.istore_n 2, 1) := by decide +kernel
theorem dX1_earsBy_77 : decode cX1_earsBy 77 = .ok (.iload_n 3, 1) := by decide +kernel
theorem dX1_earsBy_78 : decode cX1_earsBy 78 = .ok (.iconst 1, 1) := by decide +kernel
theorem dX1_earsBy_79 : decode cX1_earsBy 79 = .ok (.ishr, 1) := by decide +kernel
theorem dX1_earsBy_80 : decode cX1_earsBy 80 = .ok (.istore_n 3, 1) := by decide +kernel
theorem dX1_earsBy_81 : decode cX1_earsBy 81 = .ok (.goto 67, 3) := by decide +kernel
theorem dX1_earsBy_84 : decode cX1_earsBy 84 = .ok (.iload 5, 2) := by decide +kernel
theorem dX1_earsBy_86 : decode cX1_earsBy 86 = .ok (.iconst (-1), 1) := by decide +kernel
theorem dX1_earsBy_87 : decode cX1_earsBy 87 = .ok (.if_icmp .ne 10, 3) := by decide +kernel
theorem dX1_earsBy_90 : decode cX1_earsBy 90 = .ok (.iload_n 3, 1) := by decide +kernel
theorem dX1_earsBy_91 : decode cX1_earsBy 91 = .ok (.iconst 1, 1) := by decide +kernel
theorem dX1_earsBy_92 : decode cX1_earsBy 92 = .ok (.ixor, 1) := by decide +kernel
theorem dX1_earsBy_93 : decode cX1_earsBy 93 = .ok (.istore_n 3, 1) := by decide +kernel
theorem dX1_earsBy_94 : decode cX1_earsBy 94 = .ok (.goto 54, 3) := by decide +kernel
theorem dX1_earsBy_97 : decode cX1_earsBy 97 = .ok (.iload 5, 2) := by decide +kernel
theorem dX1_earsBy_99 : decode cX1_earsBy 99 = .ok (.bipush (-2), 2) := by decide +kernel
theorem dX1_earsBy_101 : decode cX1_earsBy 101 = .ok (.if_icmp .ne 16, 3) := by decide +kernel
theorem dX1_earsBy_104 : decode cX1_earsBy 104 = .ok (.iload_n 3, 1) := by decide +kernel
theorem dX1_earsBy_105 : decode cX1_earsBy 105 = .ok (.iconst 1, 1) := by decide +kernel
theorem dX1_earsBy_106 : decode cX1_earsBy 106 = .ok (.ishr, 1) := by decide +kernel
theorem dX1_earsBy_107 : decode cX1_earsBy 107 = .ok (.iload 6, 2) := by decide +kernel
theorem dX1_earsBy_109 : decode cX1_earsBy 109 = .ok (.bipush (-2), 2) := by decide +kernel
theorem dX1_earsBy_111 : decode cX1_earsBy 111 = .ok (.ior, 1) := by decide +kernel
theorem dX1_earsBy_112 : decode cX1_earsBy 112 = .ok (.iand, 1) := by decide +kernel
theorem dX1_earsBy_113 : decode cX1_earsBy 113 = .ok (.istore_n 3, 1) := by decide +kernel
theorem dX1_earsBy_114 : decode cX1_earsBy 114 = .ok (.goto 34, 3) := by decide +kernel
theorem dX1_earsBy_117 : decode cX1_earsBy 117 = .ok (.iload 5, 2) := by decide +kernel
theorem dX1_earsBy_119 : decode cX1_earsBy 119 = .ok (.bipush (-3), 2) := by decide +kernel
theorem dX1_earsBy_121 : decode cX1_earsBy 121 = .ok (.if_icmp .ne 13, 3) := by decide +kernel
theorem dX1_earsBy_124 : decode cX1_earsBy 124 = .ok (.iload_n 3, 1) := by decide +kernel
theorem dX1_earsBy_125 : decode cX1_earsBy 125 = .ok (.iconst 1, 1) := by decide +kernel
theorem dX1_earsBy_126 : decode cX1_earsBy 126 = .ok (.ishr, 1) := by decide +kernel
theorem dX1_earsBy_127 : decode cX1_earsBy 127 = .ok (.iload 6, 2) := by decide +kernel
theorem dX1_earsBy_129 : decode cX1_earsBy 129 = .ok (.ior, 1) := by decide +kernel
theorem dX1_earsBy_130 : decode cX1_earsBy 130 = .ok (.istore_n 3, 1) := by decide +kernel
theorem dX1_earsBy_131 : decode cX1_earsBy 131 = .ok (.goto 17, 3) := by decide +kernel
theorem dX1_earsBy_134 : decode cX1_earsBy 134 = .ok (.iload_n 3, 1) := by decide +kernel
theorem dX1_earsBy_135 : decode cX1_earsBy 135 = .ok (.iconst 1, 1) := by decide +kernel
theorem dX1_earsBy_136 : decode cX1_earsBy 136 = .ok (.ishl, 1) := by decide +kernel
theorem dX1_earsBy_137 : decode cX1_earsBy 137 = .ok (.iload 5, 2) := by decide +kernel
theorem dX1_earsBy_139 : decode cX1_earsBy 139 = .ok (.aload_n 1, 1) := by decide +kernel
theorem dX1_earsBy_140 : decode cX1_earsBy 140 = .ok (.invokestatic 25, 3) := by decide +kernel
theorem dX1_earsBy_143 : decode cX1_earsBy 143 = .ok (.invokestatic 29, 3) := by decide +kernel
theorem dX1_earsBy_146 : decode cX1_earsBy 146 = .ok (.ior, 1) := by decide +kernel
theorem dX1_earsBy_147 : decode cX1_earsBy 147 = .ok (.istore_n 3, 1) := by decide +kernel
theorem dX1_earsBy_148 : decode cX1_earsBy 148 = .ok (.iinc 4 1, 3) := by decide +kernel
theorem dX1_earsBy_151 : decode cX1_earsBy 151 = .ok (.goto (-144), 3) := by decide +kernel
theorem dX1_earsBy_154 : decode cX1_earsBy 154 = .ok (.iload_n 2, 1) := by decide +kernel
theorem dX1_earsBy_155 : decode cX1_earsBy 155 = .ok (.ireturn, 1) := by decide +kernel
theorem dX1_testHolds_0 : decode cX1_testHolds 0 = .ok (.iload_n 0, 1) := by decide +kernel
theorem dX1_testHolds_1 : decode cX1_testHolds 1 = .ok (.sipush 300, 3) := by decide +kernel
theorem dX1_testHolds_4 : decode cX1_testHolds 4 = .ok (.idiv, 1) := by decide +kernel
theorem dX1_testHolds_5 : decode cX1_testHolds 5 = .ok (.istore_n 2, 1) := by decide +kernel
theorem dX1_testHolds_6 : decode cX1_testHolds 6 = .ok (.iload_n 2, 1) := by decide +kernel
theorem dX1_testHolds_7 : decode cX1_testHolds 7 = .ok (.ifCond .lt 9, 3) := by decide +kernel
theorem dX1_testHolds_10 : decode cX1_testHolds 10 = .ok (.iload_n 2, 1) := by decide +kernel
theorem dX1_testHolds_11 : decode cX1_testHolds 11 = .ok (.aload_n 1, 1) := by decide +kernel
theorem dX1_testHolds_12 : decode cX1_testHolds 12 = .ok (.arraylength, 1) := by decide +kernel
theorem dX1_testHolds_13 : decode cX1_testHolds 13 = .ok (.if_icmp .lt 5, 3) := by decide +kernel
theorem dX1_testHolds_16 : decode cX1_testHolds 16 = .ok (.iconst 0, 1) := by decide +kernel
theorem dX1_testHolds_17 : decode cX1_testHolds 17 = .ok (.ireturn, 1) := by decide +kernel
theorem dX1_testHolds_18 : decode cX1_testHolds 18 = .ok (.iload_n 0, 1) := by decide +kernel
theorem dX1_testHolds_19 : decode cX1_testHolds 19 = .ok (.bipush 100, 2) := by decide +kernel
theorem dX1_testHolds_21 : decode cX1_testHolds 21 = .ok (.irem, 1) := by decide +kernel
theorem dX1_testHolds_22 : decode cX1_testHolds 22 = .ok (.istore_n 3, 1) := by decide +kernel
theorem dX1_testHolds_23 : decode cX1_testHolds 23 = .ok (.iload_n 0, 1) := by decide +kernel
theorem dX1_testHolds_24 : decode cX1_testHolds 24 = .ok (.bipush 100, 2) := by decide +kernel
theorem dX1_testHolds_26 : decode cX1_testHolds 26 = .ok (.idiv, 1) := by decide +kernel
theorem dX1_testHolds_27 : decode cX1_testHolds 27 = .ok (.iconst 3, 1) := by decide +kernel
theorem dX1_testHolds_28 : decode cX1_testHolds 28 = .ok (.irem, 1) := by decide +kernel
theorem dX1_testHolds_29 : decode cX1_testHolds 29 = .ok (.lookupswitch 53 #[(0, 27), (1, 40)], 27) := by decide +kernel
theorem dX1_testHolds_56 : decode cX1_testHolds 56 = .ok (.aload_n 1, 1) := by decide +kernel
theorem dX1_testHolds_57 : decode cX1_testHolds 57 = .ok (.iload_n 2, 1) := by decide +kernel
theorem dX1_testHolds_58 : decode cX1_testHolds 58 = .ok (.iaload, 1) := by decide +kernel
theorem dX1_testHolds_59 : decode cX1_testHolds 59 = .ok (.iload_n 3, 1) := by decide +kernel
theorem dX1_testHolds_60 : decode cX1_testHolds 60 = .ok (.if_icmp .ge 7, 3) := by decide +kernel
theorem dX1_testHolds_63 : decode cX1_testHolds 63 = .ok (.iconst 1, 1) := by decide +kernel
theorem dX1_testHolds_64 : decode cX1_testHolds 64 = .ok (.goto 4, 3) := by decide +kernel
theorem dX1_testHolds_67 : decode cX1_testHolds 67 = .ok (.iconst 0, 1) := by decide +kernel
theorem dX1_testHolds_68 : decode cX1_testHolds 68 = .ok (.ireturn, 1) := by decide +kernel
theorem dX1_testHolds_69 : decode cX1_testHolds 69 = .ok (.aload_n 1, 1) := by decide +kernel
theorem dX1_testHolds_70 : decode cX1_testHolds 70 = .ok (.iload_n 2, 1) := by decide +kernel
theorem dX1_testHolds_71 : decode cX1_testHolds 71 = .ok (.iaload, 1) := by decide +kernel
theorem dX1_testHolds_72 : decode cX1_testHolds 72 = .ok (.iload_n 3, 1) := by decide +kernel
theorem dX1_testHolds_73 : decode cX1_testHolds 73 = .ok (.if_icmp .ne 7, 3) := by decide +kernel
theorem dX1_testHolds_76 : decode cX1_testHolds 76 = .ok (.iconst 1, 1) := by decide +kernel
theorem dX1_testHolds_77 : decode cX1_testHolds 77 = .ok (.goto 4, 3) := by decide +kernel
theorem dX1_testHolds_80 : decode cX1_testHolds 80 = .ok (.iconst 0, 1) := by decide +kernel
theorem dX1_testHolds_81 : decode cX1_testHolds 81 = .ok (.ireturn, 1) := by decide +kernel
theorem dX1_testHolds_82 : decode cX1_testHolds 82 = .ok (.aload_n 1, 1) := by decide +kernel
theorem dX1_testHolds_83 : decode cX1_testHolds 83 = .ok (.iload_n 2, 1) := by decide +kernel
theorem dX1_testHolds_84 : decode cX1_testHolds 84 = .ok (.iaload, 1) := by decide +kernel
theorem dX1_testHolds_85 : decode cX1_testHolds 85 = .ok (.iload_n 3, 1) := by decide +kernel
theorem dX1_testHolds_86 : decode cX1_testHolds 86 = .ok (.if_icmp .le 7, 3) := by decide +kernel
theorem dX1_testHolds_89 : decode cX1_testHolds 89 = .ok (.iconst 1, 1) := by decide +kernel
theorem dX1_testHolds_90 : decode cX1_testHolds 90 = .ok (.goto 4, 3) := by decide +kernel
theorem dX1_testHolds_93 : decode cX1_testHolds 93 = .ok (.iconst 0, 1) := by decide +kernel
theorem dX1_testHolds_94 : decode cX1_testHolds 94 = .ok (.ireturn, 1) := by decide +kernel
theorem dX2_init_0 : decode cX2_init 0 = .ok (.aload_n 0, 1) := by decide +kernel
theorem dX2_init_1 : decode cX2_init 1 = .ok (.invokespecial 3, 3) := by decide +kernel
theorem dX2_init_4 : decode cX2_init 4 = .ok (.aload_n 0, 1) := by decide +kernel
theorem dX2_init_5 : decode cX2_init 5 = .ok (.new 9, 3) := by decide +kernel
theorem dX2_init_8 : decode cX2_init 8 = .ok (.dup, 1) := by decide +kernel
theorem dX2_init_9 : decode cX2_init 9 = .ok (.invokespecial 11, 3) := by decide +kernel
theorem dX2_init_12 : decode cX2_init 12 = .ok (.putfield 12, 3) := by decide +kernel
theorem dX2_init_15 : decode cX2_init 15 = .ok (.aload_n 0, 1) := by decide +kernel
theorem dX2_init_16 : decode cX2_init 16 = .ok (.new 18, 3) := by decide +kernel
theorem dX2_init_19 : decode cX2_init 19 = .ok (.dup, 1) := by decide +kernel
theorem dX2_init_20 : decode cX2_init 20 = .ok (.iconst 5, 1) := by decide +kernel
theorem dX2_init_21 : decode cX2_init 21 = .ok (.invokespecial 20, 3) := by decide +kernel
theorem dX2_init_24 : decode cX2_init 24 = .ok (.putfield 23, 3) := by decide +kernel
theorem dX2_init_27 : decode cX2_init 27 = .ok (.aload_n 0, 1) := by decide +kernel
theorem dX2_init_28 : decode cX2_init 28 = .ok (.new 18, 3) := by decide +kernel
theorem dX2_init_31 : decode cX2_init 31 = .ok (.dup, 1) := by decide +kernel
theorem dX2_init_32 : decode cX2_init 32 = .ok (.bipush 10, 2) := by decide +kernel
theorem dX2_init_34 : decode cX2_init 34 = .ok (.invokespecial 20, 3) := by decide +kernel
theorem dX2_init_37 : decode cX2_init 37 = .ok (.putfield 27, 3) := by decide +kernel
theorem dX2_init_40 : decode cX2_init 40 = .ok (.aload_n 0, 1) := by decide +kernel
theorem dX2_init_41 : decode cX2_init 41 = .ok (.new 18, 3) := by decide +kernel
theorem dX2_init_44 : decode cX2_init 44 = .ok (.dup, 1) := by decide +kernel
theorem dX2_init_45 : decode cX2_init 45 = .ok (.bipush 8, 2) := by decide +kernel
theorem dX2_init_47 : decode cX2_init 47 = .ok (.invokespecial 20, 3) := by decide +kernel
theorem dX2_init_50 : decode cX2_init 50 = .ok (.putfield 30, 3) := by decide +kernel
theorem dX2_init_53 : decode cX2_init 53 = .ok (.return_, 1) := by decide +kernel
theorem dX3_init_0 : decode cX3_init 0 = .ok (.aload_n 0, 1) := by decide +kernel
theorem dX3_init_1 : decode cX3_init 1 = .ok (.invokespecial 3, 3) := by decide +kernel
theorem dX3_init_4 : decode cX3_init 4 = .ok (.aload_n 0, 1) := by decide +kernel
theorem dX3_init_5 : decode cX3_init 5 = .ok (.bipush 6, 2) := by decide +kernel
theorem dX3_init_7 : decode cX3_init 7 = .ok (.newarray .int, 2) := by decide +kernel
theorem dX3_init_9 : decode cX3_init 9 = .ok (.putfield 9, 3) := by decide +kernel
theorem dX3_init_12 : decode cX3_init 12 = .ok (.aload_n 0, 1) := by decide +kernel
theorem dX3_init_13 : decode cX3_init 13 = .ok (.bipush 6, 2) := by decide +kernel
theorem dX3_init_15 : decode cX3_init 15 = .ok (.anewarray 15, 3) := by decide +kernel
theorem dX3_init_18 : decode cX3_init 18 = .ok (.putfield 17, 3) := by decide +kernel
theorem dX3_init_21 : decode cX3_init 21 = .ok (.aload_n 0, 1) := by decide +kernel
theorem dX3_init_22 : decode cX3_init 22 = .ok (.bipush 6, 2) := by decide +kernel
theorem dX3_init_24 : decode cX3_init 24 = .ok (.newarray .int, 2) := by decide +kernel
theorem dX3_init_26 : decode cX3_init 26 = .ok (.putfield 21, 3) := by decide +kernel
theorem dX3_init_29 : decode cX3_init 29 = .ok (.aload_n 0, 1) := by decide +kernel
theorem dX3_init_30 : decode cX3_init 30 = .ok (.bipush 6, 2) := by decide +kernel
theorem dX3_init_32 : decode cX3_init 32 = .ok (.newarray .int, 2) := by decide +kernel
theorem dX3_init_34 : decode cX3_init 34 = .ok (.putfield 26, 3) := by decide +kernel
theorem dX3_init_37 : decode cX3_init 37 = .ok (.aload_n 0, 1) := by decide +kernel
theorem dX3_init_38 : decode cX3_init 38 = .ok (.new 24, 3) := by decide +kernel
theorem dX3_init_41 : decode cX3_init 41 = .ok (.dup, 1) := by decide +kernel
theorem dX3_init_42 : decode cX3_init 42 = .ok (.invokespecial 29, 3) := by decide +kernel
theorem dX3_init_45 : decode cX3_init 45 = .ok (.putfield 30, 3) := by decide +kernel
theorem dX3_init_48 : decode cX3_init 48 = .ok (.aload_n 0, 1) := by decide +kernel
theorem dX3_init_49 : decode cX3_init 49 = .ok (.iconst (-1), 1) := by decide +kernel
theorem dX3_init_50 : decode cX3_init 50 = .ok (.putfield 34, 3) := by decide +kernel
theorem dX3_init_53 : decode cX3_init 53 = .ok (.iconst 0, 1) := by decide +kernel
theorem dX3_init_54 : decode cX3_init 54 = .ok (.istore_n 1, 1) := by decide +kernel
theorem dX3_init_55 : decode cX3_init 55 = .ok (.iload_n 1, 1) := by decide +kernel
theorem dX3_init_56 : decode cX3_init 56 = .ok (.bipush 6, 2) := by decide +kernel
theorem dX3_init_58 : decode cX3_init 58 = .ok (.if_icmp .ge 22, 3) := by decide +kernel
theorem dX3_init_61 : decode cX3_init 61 = .ok (.aload_n 0, 1) := by decide +kernel
theorem dX3_init_62 : decode cX3_init 62 = .ok (.getfield 17, 3) := by decide +kernel
theorem dX3_init_65 : decode cX3_init 65 = .ok (.iload_n 1, 1) := by decide +kernel
theorem dX3_init_66 : decode cX3_init 66 = .ok (.new 15, 3) := by decide +kernel
theorem dX3_init_69 : decode cX3_init 69 = .ok (.dup, 1) := by decide +kernel
theorem dX3_init_70 : decode cX3_init 70 = .ok (.invokespecial 38, 3) := by decide +kernel
theorem dX3_init_73 : decode cX3_init 73 = .ok (.aastore, 1) := by decide +kernel
theorem dX3_init_74 : decode cX3_init 74 = .ok (.iinc 1 1, 3) := by decide +kernel
theorem dX3_init_77 : decode cX3_init 77 = .ok (.goto (-22), 3) := by decide +kernel
theorem dX3_init_80 : decode cX3_init 80 = .ok (.return_, 1) := by decide +kernel
theorem dX3_copyFrom_0 : decode cX3_copyFrom 0 = .ok (.aload_n 1, 1) := by decide +kernel
theorem dX3_copyFrom_1 : decode cX3_copyFrom 1 = .ok (.getfield 9, 3) := by decide +kernel
theorem dX3_copyFrom_4 : decode cX3_copyFrom 4 = .ok (.iconst 0, 1) := by decide +kernel
theorem dX3_copyFrom_5 : decode cX3_copyFrom 5 = .ok (.aload_n 0, 1) := by decide +kernel
theorem dX3_copyFrom_6 : decode cX3_copyFrom 6 = .ok (.getfield 9, 3) := by decide +kernel
theorem dX3_copyFrom_9 : decode cX3_copyFrom 9 = .ok (.iconst 0, 1) := by decide +kernel
theorem dX3_copyFrom_10 : decode cX3_copyFrom 10 = .ok (.bipush 6, 2) := by decide +kernel
theorem dX3_copyFrom_12 : decode cX3_copyFrom 12 = .ok (.invokestatic 39, 3) := by decide +kernel
theorem dX3_copyFrom_15 : decode cX3_copyFrom 15 = .ok (.aload_n 1, 1) := by decide +kernel
theorem dX3_copyFrom_16 : decode cX3_copyFrom 16 = .ok (.getfield 21, 3) := by decide +kernel
theorem dX3_copyFrom_19 : decode cX3_copyFrom 19 = .ok (.iconst 0, 1) := by decide +kernel
theorem dX3_copyFrom_20 : decode cX3_copyFrom 20 = .ok (.aload_n 0, 1) := by decide +kernel
theorem dX3_copyFrom_21 : decode cX3_copyFrom 21 = .ok (.getfield 21, 3) := by decide +kernel
theorem dX3_copyFrom_24 : decode cX3_copyFrom 24 = .ok (.iconst 0, 1) := by decide +kernel
theorem dX3_copyFrom_25 : decode cX3_copyFrom 25 = .ok (.bipush 6, 2) := by decide +kernel
theorem dX3_copyFrom_27 : decode cX3_copyFrom 27 = .ok (.invokestatic 39, 3) := by decide +kernel
theorem dX3_copyFrom_30 : decode cX3_copyFrom 30 = .ok (.iconst 0, 1) := by decide +kernel
theorem dX3_copyFrom_31 : decode cX3_copyFrom 31 = .ok (.istore_n 2, 1) := by decide +kernel
theorem dX3_copyFrom_32 : decode cX3_copyFrom 32 = .ok (.iload_n 2, 1) := by decide +kernel
theorem dX3_copyFrom_33 : decode cX3_copyFrom 33 = .ok (.aload_n 1, 1) := by decide +kernel
theorem dX3_copyFrom_34 : decode cX3_copyFrom 34 = .ok (.getfield 45, 3) := by decide +kernel
theorem dX3_copyFrom_37 : decode cX3_copyFrom 37 = .ok (.if_icmp .ge 24, 3) := by decide +kernel
theorem dX3_copyFrom_40 : decode cX3_copyFrom 40 = .ok (.aload_n 0, 1) := by decide +kernel
theorem dX3_copyFrom_41 : decode cX3_copyFrom 41 = .ok (.getfield 17, 3) := by decide +kernel
theorem dX3_copyFrom_44 : decode cX3_copyFrom 44 = .ok (.iload_n 2, 1) := by decide +kernel
theorem dX3_copyFrom_45 : decode cX3_copyFrom 45 = .ok (.aaload, 1) := by decide +kernel
theorem dX3_copyFrom_46 : decode cX3_copyFrom 46 = .ok (.aload_n 1, 1) := by decide +kernel
theorem dX3_copyFrom_47 : decode cX3_copyFrom 47 = .ok (.getfield 17, 3) := by decide +kernel
theorem dX3_copyFrom_50 : decode cX3_copyFrom 50 = .ok (.iload_n 2, 1) := by decide +kernel
theorem dX3_copyFrom_51 : decode cX3_copyFrom 51 = .ok (.aaload, 1) := by decide +kernel
theorem dX3_copyFrom_52 : decode cX3_copyFrom 52 = .ok (.invokevirtual 48, 3) := by decide +kernel
theorem dX3_copyFrom_55 : decode cX3_copyFrom 55 = .ok (.iinc 2 1, 3) := by decide +kernel
theorem dX3_copyFrom_58 : decode cX3_copyFrom 58 = .ok (.goto (-26), 3) := by decide +kernel
theorem dX3_copyFrom_61 : decode cX3_copyFrom 61 = .ok (.aload_n 0, 1) := by decide +kernel
theorem dX3_copyFrom_62 : decode cX3_copyFrom 62 = .ok (.aload_n 1, 1) := by decide +kernel
theorem dX3_copyFrom_63 : decode cX3_copyFrom 63 = .ok (.getfield 52, 3) := by decide +kernel
theorem dX3_copyFrom_66 : decode cX3_copyFrom 66 = .ok (.putfield 52, 3) := by decide +kernel
theorem dX3_copyFrom_69 : decode cX3_copyFrom 69 = .ok (.aload_n 0, 1) := by decide +kernel
theorem dX3_copyFrom_70 : decode cX3_copyFrom 70 = .ok (.aload_n 1, 1) := by decide +kernel
theorem dX3_copyFrom_71 : decode cX3_copyFrom 71 = .ok (.getfield 55, 3) := by decide +kernel
theorem dX3_copyFrom_74 : decode cX3_copyFrom 74 = .ok (.putfield 55, 3) := by decide +kernel
theorem dX3_copyFrom_77 : decode cX3_copyFrom 77 = .ok (.aload_n 0, 1) := by decide +kernel
theorem dX3_copyFrom_78 : decode cX3_copyFrom 78 = .ok (.aload_n 1, 1) := by decide +kernel
theorem dX3_copyFrom_79 : decode cX3_copyFrom 79 = .ok (.getfield 45, 3) := by decide +kernel
theorem dX3_copyFrom_82 : decode cX3_copyFrom 82 = .ok (.putfield 45, 3) := by decide +kernel
theorem dX3_copyFrom_85 : decode cX3_copyFrom 85 = .ok (.aload_n 0, 1) := by decide +kernel
theorem dX3_copyFrom_86 : decode cX3_copyFrom 86 = .ok (.aload_n 1, 1) := by decide +kernel
theorem dX3_copyFrom_87 : decode cX3_copyFrom 87 = .ok (.getfield 58, 3) := by decide +kernel
theorem dX3_copyFrom_90 : decode cX3_copyFrom 90 = .ok (.putfield 58, 3) := by decide +kernel
theorem dX3_copyFrom_93 : decode cX3_copyFrom 93 = .ok (.aload_n 0, 1) := by decide +kernel
theorem dX3_copyFrom_94 : decode cX3_copyFrom 94 = .ok (.aload_n 1, 1) := by decide +kernel
theorem dX3_copyFrom_95 : decode cX3_copyFrom 95 = .ok (.getfield 61, 3) := by decide +kernel
theorem dX3_copyFrom_98 : decode cX3_copyFrom 98 = .ok (.putfield 61, 3) := by decide +kernel
theorem dX3_copyFrom_101 : decode cX3_copyFrom 101 = .ok (.aload_n 0, 1) := by decide +kernel
theorem dX3_copyFrom_102 : decode cX3_copyFrom 102 = .ok (.aload_n 1, 1) := by decide +kernel
theorem dX3_copyFrom_103 : decode cX3_copyFrom 103 = .ok (.getfield 64, 3) := by decide +kernel
theorem dX3_copyFrom_106 : decode cX3_copyFrom 106 = .ok (.putfield 64, 3) := by decide +kernel
theorem dX3_copyFrom_109 : decode cX3_copyFrom 109 = .ok (.aload_n 0, 1) := by decide +kernel
theorem dX3_copyFrom_110 : decode cX3_copyFrom 110 = .ok (.aload_n 1, 1) := by decide +kernel
theorem dX3_copyFrom_111 : decode cX3_copyFrom 111 = .ok (.getfield 67, 3) := by decide +kernel
theorem dX3_copyFrom_114 : decode cX3_copyFrom 114 = .ok (.putfield 67, 3) := by decide +kernel
theorem dX3_copyFrom_117 : decode cX3_copyFrom 117 = .ok (.aload_n 0, 1) := by decide +kernel
theorem dX3_copyFrom_118 : decode cX3_copyFrom 118 = .ok (.aload_n 1, 1) := by decide +kernel
theorem dX3_copyFrom_119 : decode cX3_copyFrom 119 = .ok (.getfield 30, 3) := by decide +kernel
theorem dX3_copyFrom_122 : decode cX3_copyFrom 122 = .ok (.putfield 30, 3) := by decide +kernel
theorem dX3_copyFrom_125 : decode cX3_copyFrom 125 = .ok (.aload_n 0, 1) := by decide +kernel
theorem dX3_copyFrom_126 : decode cX3_copyFrom 126 = .ok (.iconst 0, 1) := by decide +kernel
theorem dX3_copyFrom_127 : decode cX3_copyFrom 127 = .ok (.putfield 70, 3) := by decide +kernel
theorem dX3_copyFrom_130 : decode cX3_copyFrom 130 = .ok (.aload_n 0, 1) := by decide +kernel
theorem dX3_copyFrom_131 : decode cX3_copyFrom 131 = .ok (.iconst 0, 1) := by decide +kernel
theorem dX3_copyFrom_132 : decode cX3_copyFrom 132 = .ok (.putfield 73, 3) := by decide +kernel
theorem dX3_copyFrom_135 : decode cX3_copyFrom 135 = .ok (.aload_n 0, 1) := by decide +kernel
theorem dX3_copyFrom_136 : decode cX3_copyFrom 136 = .ok (.iconst (-1), 1) := by decide +kernel
theorem dX3_copyFrom_137 : decode cX3_copyFrom 137 = .ok (.putfield 34, 3) := by decide +kernel
theorem dX3_copyFrom_140 : decode cX3_copyFrom 140 = .ok (.return_, 1) := by decide +kernel
theorem dX3_hasGate_0 : decode cX3_hasGate 0 = .ok (.iload_n 1, 1) := by decide +kernel
theorem dX3_hasGate_1 : decode cX3_hasGate 1 = .ok (.ifCond .lt 15, 3) := by decide +kernel
theorem dX3_hasGate_4 : decode cX3_hasGate 4 = .ok (.iload_n 1, 1) := by decide +kernel
theorem dX3_hasGate_5 : decode cX3_hasGate 5 = .ok (.aload_n 0, 1) := by decide +kernel
theorem dX3_hasGate_6 : decode cX3_hasGate 6 = .ok (.getfield 52, 3) := by decide +kernel
theorem dX3_hasGate_9 : decode cX3_hasGate 9 = .ok (.if_icmp .ge 7, 3) := by decide +kernel
theorem dX3_hasGate_12 : decode cX3_hasGate 12 = .ok (.iconst 1, 1) := by decide +kernel
theorem dX3_hasGate_13 : decode cX3_hasGate 13 = .ok (.goto 4, 3) := by decide +kernel
theorem dX3_hasGate_16 : decode cX3_hasGate 16 = .ok (.iconst 0, 1) := by decide +kernel
theorem dX3_hasGate_17 : decode cX3_hasGate 17 = .ok (.ireturn, 1) := by decide +kernel
theorem dX3_hasPerson_0 : decode cX3_hasPerson 0 = .ok (.iload_n 1, 1) := by decide +kernel
theorem dX3_hasPerson_1 : decode cX3_hasPerson 1 = .ok (.ifCond .lt 15, 3) := by decide +kernel
theorem dX3_hasPerson_4 : decode cX3_hasPerson 4 = .ok (.iload_n 1, 1) := by decide +kernel
theorem dX3_hasPerson_5 : decode cX3_hasPerson 5 = .ok (.aload_n 0, 1) := by decide +kernel
theorem dX3_hasPerson_6 : decode cX3_hasPerson 6 = .ok (.getfield 45, 3) := by decide +kernel
theorem dX3_hasPerson_9 : decode cX3_hasPerson 9 = .ok (.if_icmp .ge 7, 3) := by decide +kernel
theorem dX3_hasPerson_12 : decode cX3_hasPerson 12 = .ok (.iconst 1, 1) := by decide +kernel
theorem dX3_hasPerson_13 : decode cX3_hasPerson 13 = .ok (.goto 4, 3) := by decide +kernel
theorem dX3_hasPerson_16 : decode cX3_hasPerson 16 = .ok (.iconst 0, 1) := by decide +kernel
theorem dX3_hasPerson_17 : decode cX3_hasPerson 17 = .ok (.ireturn, 1) := by decide +kernel
theorem dX3_addGate_0 : decode cX3_addGate 0 = .ok (.aload_n 0, 1) := by decide +kernel
theorem dX3_addGate_1 : decode cX3_addGate 1 = .ok (.getfield 9, 3) := by decide +kernel
theorem dX3_addGate_4 : decode cX3_addGate 4 = .ok (.aload_n 0, 1) := by decide +kernel
theorem dX3_addGate_5 : decode cX3_addGate 5 = .ok (.getfield 52, 3) := by decide +kernel
theorem dX3_addGate_8 : decode cX3_addGate 8 = .ok (.iload_n 1, 1) := by decide +kernel
theorem dX3_addGate_9 : decode cX3_addGate 9 = .ok (.iastore, 1) := by decide +kernel
theorem dX3_addGate_10 : decode cX3_addGate 10 = .ok (.aload_n 0, 1) := by decide +kernel
theorem dX3_addGate_11 : decode cX3_addGate 11 = .ok (.dup, 1) := by decide +kernel
theorem dX3_addGate_12 : decode cX3_addGate 12 = .ok (.getfield 52, 3) := by decide +kernel
theorem dX3_addGate_15 : decode cX3_addGate 15 = .ok (.iconst 1, 1) := by decide +kernel
theorem dX3_addGate_16 : decode cX3_addGate 16 = .ok (.iadd, 1) := by decide +kernel
theorem dX3_addGate_17 : decode cX3_addGate 17 = .ok (.putfield 52, 3) := by decide +kernel
theorem dX3_addGate_20 : decode cX3_addGate 20 = .ok (.aload_n 0, 1) := by decide +kernel
theorem dX3_addGate_21 : decode cX3_addGate 21 = .ok (.getfield 52, 3) := by decide +kernel
theorem dX3_addGate_24 : decode cX3_addGate 24 = .ok (.iconst 1, 1) := by decide +kernel
theorem dX3_addGate_25 : decode cX3_addGate 25 = .ok (.isub, 1) := by decide +kernel
theorem dX3_addGate_26 : decode cX3_addGate 26 = .ok (.ireturn, 1) := by decide +kernel
theorem dX3_addPerson_0 : decode cX3_addPerson 0 = .ok (.aload_n 0, 1) := by decide +kernel
theorem dX3_addPerson_1 : decode cX3_addPerson 1 = .ok (.getfield 17, 3) := by decide +kernel
theorem dX3_addPerson_4 : decode cX3_addPerson 4 = .ok (.aload_n 0, 1) := by decide +kernel
theorem dX3_addPerson_5 : decode cX3_addPerson 5 = .ok (.getfield 45, 3) := by decide +kernel
theorem dX3_addPerson_8 : decode cX3_addPerson 8 = .ok (.aaload, 1) := by decide +kernel
theorem dX3_addPerson_9 : decode cX3_addPerson 9 = .ok (.iload_n 1, 1) := by decide +kernel
theorem dX3_addPerson_10 : decode cX3_addPerson 10 = .ok (.iload_n 2, 1) := by decide +kernel
theorem dX3_addPerson_11 : decode cX3_addPerson 11 = .ok (.iload_n 3, 1) := by decide +kernel
theorem dX3_addPerson_12 : decode cX3_addPerson 12 = .ok (.invokevirtual 76, 3) := by decide +kernel
theorem dX3_addPerson_15 : decode cX3_addPerson 15 = .ok (.aload_n 0, 1) := by decide +kernel
theorem dX3_addPerson_16 : decode cX3_addPerson 16 = .ok (.dup, 1) := by decide +kernel
theorem dX3_addPerson_17 : decode cX3_addPerson 17 = .ok (.getfield 45, 3) := by decide +kernel
theorem dX3_addPerson_20 : decode cX3_addPerson 20 = .ok (.iconst 1, 1) := by decide +kernel
theorem dX3_addPerson_21 : decode cX3_addPerson 21 = .ok (.iadd, 1) := by decide +kernel
theorem dX3_addPerson_22 : decode cX3_addPerson 22 = .ok (.putfield 45, 3) := by decide +kernel
theorem dX3_addPerson_25 : decode cX3_addPerson 25 = .ok (.aload_n 0, 1) := by decide +kernel
theorem dX3_addPerson_26 : decode cX3_addPerson 26 = .ok (.getfield 45, 3) := by decide +kernel
theorem dX3_addPerson_29 : decode cX3_addPerson 29 = .ok (.iconst 1, 1) := by decide +kernel
theorem dX3_addPerson_30 : decode cX3_addPerson 30 = .ok (.isub, 1) := by decide +kernel
theorem dX3_addPerson_31 : decode cX3_addPerson 31 = .ok (.ireturn, 1) := by decide +kernel
theorem dX3_isShut_0 : decode cX3_isShut 0 = .ok (.aload_n 0, 1) := by decide +kernel
theorem dX3_isShut_1 : decode cX3_isShut 1 = .ok (.getfield 55, 3) := by decide +kernel
theorem dX3_isShut_4 : decode cX3_isShut 4 = .ok (.iload_n 1, 1) := by decide +kernel
theorem dX3_isShut_5 : decode cX3_isShut 5 = .ok (.ishr, 1) := by decide +kernel
theorem dX3_isShut_6 : decode cX3_isShut 6 = .ok (.iconst 1, 1) := by decide +kernel
theorem dX3_isShut_7 : decode cX3_isShut 7 = .ok (.iand, 1) := by decide +kernel
theorem dX3_isShut_8 : decode cX3_isShut 8 = .ok (.iconst 1, 1) := by decide +kernel
theorem dX3_isShut_9 : decode cX3_isShut 9 = .ok (.if_icmp .ne 7, 3) := by decide +kernel
theorem dX3_isShut_12 : decode cX3_isShut 12 = .ok (.iconst 1, 1) := by decide +kernel
theorem dX3_isShut_13 : decode cX3_isShut 13 = .ok (.goto 4, 3) := by decide +kernel
theorem dX3_isShut_16 : decode cX3_isShut 16 = .ok (.iconst 0, 1) := by decide +kernel
theorem dX3_isShut_17 : decode cX3_isShut 17 = .ok (.ireturn, 1) := by decide +kernel
theorem dX3_setShut_0 : decode cX3_setShut 0 = .ok (.aload_n 0, 1) := by decide +kernel
theorem dX3_setShut_1 : decode cX3_setShut 1 = .ok (.iload_n 2, 1) := by decide +kernel
theorem dX3_setShut_2 : decode cX3_setShut 2 = .ok (.ifCond .eq 14, 3) := by decide +kernel
theorem dX3_setShut_5 : decode cX3_setShut 5 = .ok (.aload_n 0, 1) := by decide +kernel
theorem dX3_setShut_6 : decode cX3_setShut 6 = .ok (.getfield 55, 3) := by decide +kernel
theorem dX3_setShut_9 : decode cX3_setShut 9 = .ok (.iconst 1, 1) := by decide +kernel
theorem dX3_setShut_10 : decode cX3_setShut 10 = .ok (.iload_n 1, 1) := by decide +kernel
theorem dX3_setShut_11 : decode cX3_setShut 11 = .ok (.ishl, 1) := by decide +kernel
theorem dX3_setShut_12 : decode cX3_setShut 12 = .ok (.ior, 1) := by decide +kernel
theorem dX3_setShut_13 : decode cX3_setShut 13 = .ok (.goto 13, 3) := by decide +kernel
theorem dX3_setShut_16 : decode cX3_setShut 16 = .ok (.aload_n 0, 1) := by decide +kernel
theorem dX3_setShut_17 : decode cX3_setShut 17 = .ok (.getfield 55, 3) := by decide +kernel
theorem dX3_setShut_20 : decode cX3_setShut 20 = .ok (.iconst 1, 1) := by decide +kernel
theorem dX3_setShut_21 : decode cX3_setShut 21 = .ok (.iload_n 1, 1) := by decide +kernel
theorem dX3_setShut_22 : decode cX3_setShut 22 = .ok (.ishl, 1) := by decide +kernel
theorem dX3_setShut_23 : decode cX3_setShut 23 = .ok (.iconst (-1), 1) := by decide +kernel
theorem dX3_setShut_24 : decode cX3_setShut 24 = .ok (.ixor, 1) := by decide +kernel
theorem dX3_setShut_25 : decode cX3_setShut 25 = .ok (.iand, 1) := by decide +kernel
theorem dX3_setShut_26 : decode cX3_setShut 26 = .ok (.putfield 55, 3) := by decide +kernel
theorem dX3_setShut_29 : decode cX3_setShut 29 = .ok (.return_, 1) := by decide +kernel
theorem dX3_setDown_0 : decode cX3_setDown 0 = .ok (.aload_n 0, 1) := by decide +kernel
theorem dX3_setDown_1 : decode cX3_setDown 1 = .ok (.getfield 17, 3) := by decide +kernel
theorem dX3_setDown_4 : decode cX3_setDown 4 = .ok (.iload_n 1, 1) := by decide +kernel
theorem dX3_setDown_5 : decode cX3_setDown 5 = .ok (.aaload, 1) := by decide +kernel
theorem dX3_setDown_6 : decode cX3_setDown 6 = .ok (.iload_n 2, 1) := by decide +kernel
theorem dX3_setDown_7 : decode cX3_setDown 7 = .ok (.putfield 80, 3) := by decide +kernel
theorem dX3_setDown_10 : decode cX3_setDown 10 = .ok (.aload_n 0, 1) := by decide +kernel
theorem dX3_setDown_11 : decode cX3_setDown 11 = .ok (.getfield 17, 3) := by decide +kernel
theorem dX3_setDown_14 : decode cX3_setDown 14 = .ok (.iload_n 1, 1) := by decide +kernel
theorem dX3_setDown_15 : decode cX3_setDown 15 = .ok (.aaload, 1) := by decide +kernel
theorem dX3_setDown_16 : decode cX3_setDown 16 = .ok (.iconst 0, 1) := by decide +kernel
theorem dX3_setDown_17 : decode cX3_setDown 17 = .ok (.putfield 83, 3) := by decide +kernel
theorem dX3_setDown_20 : decode cX3_setDown 20 = .ok (.return_, 1) := by decide +kernel
theorem dX3_endRound_0 : decode cX3_endRound 0 = .ok (.aload_n 0, 1) := by decide +kernel
theorem dX3_endRound_1 : decode cX3_endRound 1 = .ok (.iconst 0, 1) := by decide +kernel
theorem dX3_endRound_2 : decode cX3_endRound 2 = .ok (.putfield 61, 3) := by decide +kernel
theorem dX3_endRound_5 : decode cX3_endRound 5 = .ok (.aload_n 0, 1) := by decide +kernel
theorem dX3_endRound_6 : decode cX3_endRound 6 = .ok (.iconst 0, 1) := by decide +kernel
theorem dX3_endRound_7 : decode cX3_endRound 7 = .ok (.putfield 64, 3) := by decide +kernel
theorem dX3_endRound_10 : decode cX3_endRound 10 = .ok (.aload_n 0, 1) := by decide +kernel
theorem dX3_endRound_11 : decode cX3_endRound 11 = .ok (.iconst 0, 1) := by decide +kernel
theorem dX3_endRound_12 : decode cX3_endRound 12 = .ok (.putfield 58, 3) := by decide +kernel
theorem dX3_endRound_15 : decode cX3_endRound 15 = .ok (.return_, 1) := by decide +kernel
theorem dX3_beginRoundWith_0 : decode cX3_beginRoundWith 0 = .ok (.iconst 0, 1) := by decide +kernel
theorem dX3_beginRoundWith_1 : decode cX3_beginRoundWith 1 = .ok (.istore_n 2, 1) := by decide +kernel
theorem dX3_beginRoundWith_2 : decode cX3_beginRoundWith 2 = .ok (.iload_n 2, 1) := by decide +kernel
theorem dX3_beginRoundWith_3 : decode cX3_beginRoundWith 3 = .ok (.iload_n 1, 1) := by decide +kernel
theorem dX3_beginRoundWith_4 : decode cX3_beginRoundWith 4 = .ok (.if_icmp .ge 47, 3) := by decide +kernel
theorem dX3_beginRoundWith_7 : decode cX3_beginRoundWith 7 = .ok (.aload_n 0, 1) := by decide +kernel
theorem dX3_beginRoundWith_8 : decode cX3_beginRoundWith 8 = .ok (.getfield 21, 3) := by decide +kernel
theorem dX3_beginRoundWith_11 : decode cX3_beginRoundWith 11 = .ok (.iconst 0, 1) := by decide +kernel
theorem dX3_beginRoundWith_12 : decode cX3_beginRoundWith 12 = .ok (.iaload, 1) := by decide +kernel
theorem dX3_beginRoundWith_13 : decode cX3_beginRoundWith 13 = .ok (.istore_n 3, 1) := by decide +kernel
theorem dX3_beginRoundWith_14 : decode cX3_beginRoundWith 14 = .ok (.aload_n 0, 1) := by decide +kernel
theorem dX3_beginRoundWith_15 : decode cX3_beginRoundWith 15 = .ok (.getfield 21, 3) := by decide +kernel
theorem dX3_beginRoundWith_18 : decode cX3_beginRoundWith 18 = .ok (.iconst 1, 1) := by decide +kernel
theorem dX3_beginRoundWith_19 : decode cX3_beginRoundWith 19 = .ok (.aload_n 0, 1) := by decide +kernel
theorem dX3_beginRoundWith_20 : decode cX3_beginRoundWith 20 = .ok (.getfield 21, 3) := by decide +kernel
theorem dX3_beginRoundWith_23 : decode cX3_beginRoundWith 23 = .ok (.iconst 0, 1) := by decide +kernel
theorem dX3_beginRoundWith_24 : decode cX3_beginRoundWith 24 = .ok (.aload_n 0, 1) := by decide +kernel
theorem dX3_beginRoundWith_25 : decode cX3_beginRoundWith 25 = .ok (.getfield 61, 3) := by decide +kernel
theorem dX3_beginRoundWith_28 : decode cX3_beginRoundWith 28 = .ok (.iconst 1, 1) := by decide +kernel
theorem dX3_beginRoundWith_29 : decode cX3_beginRoundWith 29 = .ok (.isub, 1) := by decide +kernel
theorem dX3_beginRoundWith_30 : decode cX3_beginRoundWith 30 = .ok (.invokestatic 39, 3) := by decide +kernel
theorem dX3_beginRoundWith_33 : decode cX3_beginRoundWith 33 = .ok (.aload_n 0, 1) := by decide +kernel
theorem dX3_beginRoundWith_34 : decode cX3_beginRoundWith 34 = .ok (.getfield 21, 3) := by decide +kernel
theorem dX3_beginRoundWith_37 : decode cX3_beginRoundWith 37 = .ok (.aload_n 0, 1) := by decide +kernel
theorem dX3_beginRoundWith_38 : decode cX3_beginRoundWith 38 = .ok (.getfield 61, 3) := by decide +kernel
theorem dX3_beginRoundWith_41 : decode cX3_beginRoundWith 41 = .ok (.iconst 1, 1) := by decide +kernel
theorem dX3_beginRoundWith_42 : decode cX3_beginRoundWith 42 = .ok (.isub, 1) := by decide +kernel
theorem dX3_beginRoundWith_43 : decode cX3_beginRoundWith 43 = .ok (.iload_n 3, 1) := by decide +kernel
theorem dX3_beginRoundWith_44 : decode cX3_beginRoundWith 44 = .ok (.iastore, 1) := by decide +kernel
theorem dX3_beginRoundWith_45 : decode cX3_beginRoundWith 45 = .ok (.iinc 2 1, 3) := by decide +kernel
theorem dX3_beginRoundWith_48 : decode cX3_beginRoundWith 48 = .ok (.goto (-46), 3) := by decide +kernel
theorem dX3_beginRoundWith_51 : decode cX3_beginRoundWith 51 = .ok (.aload_n 0, 1) := by decide +kernel
theorem dX3_beginRoundWith_52 : decode cX3_beginRoundWith 52 = .ok (.iconst 0, 1) := by decide +kernel
theorem dX3_beginRoundWith_53 : decode cX3_beginRoundWith 53 = .ok (.putfield 64, 3) := by decide +kernel
theorem dX3_beginRoundWith_56 : decode cX3_beginRoundWith 56 = .ok (.return_, 1) := by decide +kernel
theorem dX3_swapInRound_0 : decode cX3_swapInRound 0 = .ok (.aload_n 0, 1) := by decide +kernel
theorem dX3_swapInRound_1 : decode cX3_swapInRound 1 = .ok (.getfield 21, 3) := by decide +kernel
theorem dX3_swapInRound_4 : decode cX3_swapInRound 4 = .ok (.iload_n 1, 1) := by decide +kernel
theorem dX3_swapInRound_5 : decode cX3_swapInRound 5 = .ok (.iaload, 1) := by decide +kernel
theorem dX3_swapInRound_6 : decode cX3_swapInRound 6 = .ok (.istore_n 3, 1) := by decide +kernel
theorem dX3_swapInRound_7 : decode cX3_swapInRound 7 = .ok (.aload_n 0, 1) := by decide +kernel
theorem dX3_swapInRound_8 : decode cX3_swapInRound 8 = .ok (.getfield 21, 3) := by decide +kernel
theorem dX3_swapInRound_11 : decode cX3_swapInRound 11 = .ok (.iload_n 1, 1) := by decide +kernel
theorem dX3_swapInRound_12 : decode cX3_swapInRound 12 = .ok (.aload_n 0, 1) := by decide +kernel
theorem dX3_swapInRound_13 : decode cX3_swapInRound 13 = .ok (.getfield 21, 3) := by decide +kernel
theorem dX3_swapInRound_16 : decode cX3_swapInRound 16 = .ok (.iload_n 2, 1) := by decide +kernel
theorem dX3_swapInRound_17 : decode cX3_swapInRound 17 = .ok (.iaload, 1) := by decide +kernel
theorem dX3_swapInRound_18 : decode cX3_swapInRound 18 = .ok (.iastore, 1) := by decide +kernel
theorem dX3_swapInRound_19 : decode cX3_swapInRound 19 = .ok (.aload_n 0, 1) := by decide +kernel
theorem dX3_swapInRound_20 : decode cX3_swapInRound 20 = .ok (.getfield 21, 3) := by decide +kernel
theorem dX3_swapInRound_23 : decode cX3_swapInRound 23 = .ok (.iload_n 2, 1) := by decide +kernel
theorem dX3_swapInRound_24 : decode cX3_swapInRound 24 = .ok (.iload_n 3, 1) := by decide +kernel
theorem dX3_swapInRound_25 : decode cX3_swapInRound 25 = .ok (.iastore, 1) := by decide +kernel
theorem dX3_swapInRound_26 : decode cX3_swapInRound 26 = .ok (.return_, 1) := by decide +kernel
theorem dX3_keepOpen_0 : decode cX3_keepOpen 0 = .ok (.aload_n 0, 1) := by decide +kernel
theorem dX3_keepOpen_1 : decode cX3_keepOpen 1 = .ok (.iload_n 1, 1) := by decide +kernel
theorem dX3_keepOpen_2 : decode cX3_keepOpen 2 = .ok (.iconst 0, 1) := by decide +kernel
theorem dX3_keepOpen_3 : decode cX3_keepOpen 3 = .ok (.invokevirtual 87, 3) := by decide +kernel
theorem dX3_keepOpen_6 : decode cX3_keepOpen 6 = .ok (.aload_n 0, 1) := by decide +kernel
theorem dX3_keepOpen_7 : decode cX3_keepOpen 7 = .ok (.iload_n 1, 1) := by decide +kernel
theorem dX3_keepOpen_8 : decode cX3_keepOpen 8 = .ok (.putfield 34, 3) := by decide +kernel
theorem dX3_keepOpen_11 : decode cX3_keepOpen 11 = .ok (.return_, 1) := by decide +kernel
theorem dX3_sendOthersOut_0 : decode cX3_sendOthersOut 0 = .ok (.iconst 0, 1) := by decide +kernel
theorem dX3_sendOthersOut_1 : decode cX3_sendOthersOut 1 = .ok (.istore_n 2, 1) := by decide +kernel
theorem dX3_sendOthersOut_2 : decode cX3_sendOthersOut 2 = .ok (.iload_n 2, 1) := by decide +kernel
theorem dX3_sendOthersOut_3 : decode cX3_sendOthersOut 3 = .ok (.aload_n 0, 1) := by decide +kernel
theorem dX3_sendOthersOut_4 : decode cX3_sendOthersOut 4 = .ok (.getfield 45, 3) := by decide +kernel
theorem dX3_sendOthersOut_7 : decode cX3_sendOthersOut 7 = .ok (.if_icmp .ge 28, 3) := by decide +kernel
theorem dX3_sendOthersOut_10 : decode cX3_sendOthersOut 10 = .ok (.aload_n 0, 1) := by decide +kernel
theorem dX3_sendOthersOut_11 : decode cX3_sendOthersOut 11 = .ok (.getfield 17, 3) := by decide +kernel
theorem dX3_sendOthersOut_14 : decode cX3_sendOthersOut 14 = .ok (.iload_n 2, 1) := by decide +kernel
theorem dX3_sendOthersOut_15 : decode cX3_sendOthersOut 15 = .ok (.aaload, 1) := by decide +kernel
theorem dX3_sendOthersOut_16 : decode cX3_sendOthersOut 16 = .ok (.iload_n 2, 1) := by decide +kernel
theorem dX3_sendOthersOut_17 : decode cX3_sendOthersOut 17 = .ok (.iload_n 1, 1) := by decide +kernel
theorem dX3_sendOthersOut_18 : decode cX3_sendOthersOut 18 = .ok (.if_icmp .eq 7, 3) := by decide +kernel
theorem dX3_sendOthersOut_21 : decode cX3_sendOthersOut 21 = .ok (.iconst 1, 1) := by decide +kernel
theorem dX3_sendOthersOut_22 : decode cX3_sendOthersOut 22 = .ok (.goto 4, 3) := by decide +kernel
theorem dX3_sendOthersOut_25 : decode cX3_sendOthersOut 25 = .ok (.iconst 0, 1) := by decide +kernel
theorem dX3_sendOthersOut_26 : decode cX3_sendOthersOut 26 = .ok (.putfield 83, 3) := by decide +kernel
theorem dX3_sendOthersOut_29 : decode cX3_sendOthersOut 29 = .ok (.iinc 2 1, 3) := by decide +kernel
theorem dX3_sendOthersOut_32 : decode cX3_sendOthersOut 32 = .ok (.goto (-30), 3) := by decide +kernel
theorem dX3_sendOthersOut_35 : decode cX3_sendOthersOut 35 = .ok (.return_, 1) := by decide +kernel
theorem dX3_outBits_0 : decode cX3_outBits 0 = .ok (.iconst 0, 1) := by decide +kernel
theorem dX3_outBits_1 : decode cX3_outBits 1 = .ok (.istore_n 1, 1) := by decide +kernel
theorem dX3_outBits_2 : decode cX3_outBits 2 = .ok (.iconst 0, 1) := by decide +kernel
theorem dX3_outBits_3 : decode cX3_outBits 3 = .ok (.istore_n 2, 1) := by decide +kernel
theorem dX3_outBits_4 : decode cX3_outBits 4 = .ok (.iload_n 2, 1) := by decide +kernel
theorem dX3_outBits_5 : decode cX3_outBits 5 = .ok (.aload_n 0, 1) := by decide +kernel
theorem dX3_outBits_6 : decode cX3_outBits 6 = .ok (.getfield 45, 3) := by decide +kernel
theorem dX3_outBits_9 : decode cX3_outBits 9 = .ok (.if_icmp .ge 27, 3) := by decide +kernel
theorem dX3_outBits_12 : decode cX3_outBits 12 = .ok (.aload_n 0, 1) := by decide +kernel
theorem dX3_outBits_13 : decode cX3_outBits 13 = .ok (.getfield 17, 3) := by decide +kernel
theorem dX3_outBits_16 : decode cX3_outBits 16 = .ok (.iload_n 2, 1) := by decide +kernel
theorem dX3_outBits_17 : decode cX3_outBits 17 = .ok (.aaload, 1) := by decide +kernel
theorem dX3_outBits_18 : decode cX3_outBits 18 = .ok (.getfield 83, 3) := by decide +kernel
theorem dX3_outBits_21 : decode cX3_outBits 21 = .ok (.ifCond .eq 9, 3) := by decide +kernel
theorem dX3_outBits_24 : decode cX3_outBits 24 = .ok (.iload_n 1, 1) := by decide +kernel
theorem dX3_outBits_25 : decode cX3_outBits 25 = .ok (.iconst 1, 1) := by decide +kernel
theorem dX3_outBits_26 : decode cX3_outBits 26 = .ok (.iload_n 2, 1) := by decide +kernel
theorem dX3_outBits_27 : decode cX3_outBits 27 = .ok (.ishl, 1) := by decide +kernel
theorem dX3_outBits_28 : decode cX3_outBits 28 = .ok (.ior, 1) := by decide +kernel
theorem dX3_outBits_29 : decode cX3_outBits 29 = .ok (.istore_n 1, 1) := by decide +kernel
theorem dX3_outBits_30 : decode cX3_outBits 30 = .ok (.iinc 2 1, 3) := by decide +kernel
theorem dX3_outBits_33 : decode cX3_outBits 33 = .ok (.goto (-29), 3) := by decide +kernel
theorem dX3_outBits_36 : decode cX3_outBits 36 = .ok (.iload_n 1, 1) := by decide +kernel
theorem dX3_outBits_37 : decode cX3_outBits 37 = .ok (.ireturn, 1) := by decide +kernel
theorem dX3_inside_0 : decode cX3_inside 0 = .ok (.aload_n 0, 1) := by decide +kernel
theorem dX3_inside_1 : decode cX3_inside 1 = .ok (.getfield 45, 3) := by decide +kernel
theorem dX3_inside_4 : decode cX3_inside 4 = .ok (.aload_n 0, 1) := by decide +kernel
theorem dX3_inside_5 : decode cX3_inside 5 = .ok (.invokevirtual 91, 3) := by decide +kernel
theorem dX3_inside_8 : decode cX3_inside 8 = .ok (.invokestatic 95, 3) := by decide +kernel
theorem dX3_inside_11 : decode cX3_inside 11 = .ok (.isub, 1) := by decide +kernel
theorem dX3_inside_12 : decode cX3_inside 12 = .ok (.ireturn, 1) := by decide +kernel
theorem dX3_leftBehind_0 : decode cX3_leftBehind 0 = .ok (.iconst 0, 1) := by decide +kernel
theorem dX3_leftBehind_1 : decode cX3_leftBehind 1 = .ok (.istore_n 1, 1) := by decide +kernel
theorem dX3_leftBehind_2 : decode cX3_leftBehind 2 = .ok (.iload_n 1, 1) := by decide +kernel
theorem dX3_leftBehind_3 : decode cX3_leftBehind 3 = .ok (.bipush 60, 2) := by decide +kernel
theorem dX3_leftBehind_5 : decode cX3_leftBehind 5 = .ok (.if_icmp .ge 20, 3) := by decide +kernel
theorem dX3_leftBehind_8 : decode cX3_leftBehind 8 = .ok (.aload_n 0, 1) := by decide +kernel
theorem dX3_leftBehind_9 : decode cX3_leftBehind 9 = .ok (.invokevirtual 101, 3) := by decide +kernel
theorem dX3_leftBehind_12 : decode cX3_leftBehind 12 = .ok (.ifCond .le 13, 3) := by decide +kernel
theorem dX3_leftBehind_15 : decode cX3_leftBehind 15 = .ok (.aload_n 0, 1) := by decide +kernel
theorem dX3_leftBehind_16 : decode cX3_leftBehind 16 = .ok (.invokevirtual 104, 3) := by decide +kernel
theorem dX3_leftBehind_19 : decode cX3_leftBehind 19 = .ok (.iinc 1 1, 3) := by decide +kernel
theorem dX3_leftBehind_22 : decode cX3_leftBehind 22 = .ok (.goto (-20), 3) := by decide +kernel
theorem dX3_leftBehind_25 : decode cX3_leftBehind 25 = .ok (.aload_n 0, 1) := by decide +kernel
theorem dX3_leftBehind_26 : decode cX3_leftBehind 26 = .ok (.invokevirtual 101, 3) := by decide +kernel
theorem dX3_leftBehind_29 : decode cX3_leftBehind 29 = .ok (.ireturn, 1) := by decide +kernel
theorem dX3_passMinutes_0 : decode cX3_passMinutes 0 = .ok (.iconst 0, 1) := by decide +kernel
theorem dX3_passMinutes_1 : decode cX3_passMinutes 1 = .ok (.istore_n 2, 1) := by decide +kernel
theorem dX3_passMinutes_2 : decode cX3_passMinutes 2 = .ok (.iload_n 2, 1) := by decide +kernel
theorem dX3_passMinutes_3 : decode cX3_passMinutes 3 = .ok (.iload_n 1, 1) := by decide +kernel
theorem dX3_passMinutes_4 : decode cX3_passMinutes 4 = .ok (.if_icmp .ge 13, 3) := by decide +kernel
theorem dX3_passMinutes_7 : decode cX3_passMinutes 7 = .ok (.aload_n 0, 1) := by decide +kernel
theorem dX3_passMinutes_8 : decode cX3_passMinutes 8 = .ok (.invokevirtual 104, 3) := by decide +kernel
theorem dX3_passMinutes_11 : decode cX3_passMinutes 11 = .ok (.iinc 2 1, 3) := by decide +kernel
theorem dX3_passMinutes_14 : decode cX3_passMinutes 14 = .ok (.goto (-12), 3) := by decide +kernel
theorem dX3_passMinutes_17 : decode cX3_passMinutes 17 = .ok (.return_, 1) := by decide +kernel
theorem dX3_passMinute_0 : decode cX3_passMinute 0 = .ok (.iconst 0, 1) := by decide +kernel
theorem dX3_passMinute_1 : decode cX3_passMinute 1 = .ok (.istore_n 1, 1) := by decide +kernel
theorem dX3_passMinute_2 : decode cX3_passMinute 2 = .ok (.iload_n 1, 1) := by decide +kernel
theorem dX3_passMinute_3 : decode cX3_passMinute 3 = .ok (.aload_n 0, 1) := by decide +kernel
theorem dX3_passMinute_4 : decode cX3_passMinute 4 = .ok (.getfield 45, 3) := by decide +kernel
theorem dX3_passMinute_7 : decode cX3_passMinute 7 = .ok (.if_icmp .ge 43, 3) := by decide +kernel
theorem dX3_passMinute_10 : decode cX3_passMinute 10 = .ok (.aload_n 0, 1) := by decide +kernel
theorem dX3_passMinute_11 : decode cX3_passMinute 11 = .ok (.getfield 17, 3) := by decide +kernel
theorem dX3_passMinute_14 : decode cX3_passMinute 14 = .ok (.iload_n 1, 1) := by decide +kernel
theorem dX3_passMinute_15 : decode cX3_passMinute 15 = .ok (.aaload, 1) := by decide +kernel
theorem dX3_passMinute_16 : decode cX3_passMinute 16 = .ok (.astore_n 2, 1) := by decide +kernel
theorem dX3_passMinute_17 : decode cX3_passMinute 17 = .ok (.aload_n 2, 1) := by decide +kernel
theorem dX3_passMinute_18 : decode cX3_passMinute 18 = .ok (.getfield 83, 3) := by decide +kernel
theorem dX3_passMinute_21 : decode cX3_passMinute 21 = .ok (.ifCond .ne 23, 3) := by decide +kernel
theorem dX3_passMinute_24 : decode cX3_passMinute 24 = .ok (.aload_n 2, 1) := by decide +kernel
theorem dX3_passMinute_25 : decode cX3_passMinute 25 = .ok (.getfield 107, 3) := by decide +kernel
theorem dX3_passMinute_28 : decode cX3_passMinute 28 = .ok (.ifCond .ne 11, 3) := by decide +kernel
theorem dX3_passMinute_31 : decode cX3_passMinute 31 = .ok (.aload_n 0, 1) := by decide +kernel
theorem dX3_passMinute_32 : decode cX3_passMinute 32 = .ok (.iload_n 1, 1) := by decide +kernel
theorem dX3_passMinute_33 : decode cX3_passMinute 33 = .ok (.invokevirtual 110, 3) := by decide +kernel
theorem dX3_passMinute_36 : decode cX3_passMinute 36 = .ok (.ifCond .eq 8, 3) := by decide +kernel
theorem dX3_passMinute_39 : decode cX3_passMinute 39 = .ok (.aload_n 0, 1) := by decide +kernel
theorem dX3_passMinute_40 : decode cX3_passMinute 40 = .ok (.aload_n 2, 1) := by decide +kernel
theorem dX3_passMinute_41 : decode cX3_passMinute 41 = .ok (.invokevirtual 114, 3) := by decide +kernel
theorem dX3_passMinute_44 : decode cX3_passMinute 44 = .ok (.iinc 1 1, 3) := by decide +kernel
theorem dX3_passMinute_47 : decode cX3_passMinute 47 = .ok (.goto (-45), 3) := by decide +kernel
theorem dX3_passMinute_50 : decode cX3_passMinute 50 = .ok (.aload_n 0, 1) := by decide +kernel
theorem dX3_passMinute_51 : decode cX3_passMinute 51 = .ok (.invokevirtual 117, 3) := by decide +kernel
theorem dX3_passMinute_54 : decode cX3_passMinute 54 = .ok (.aload_n 0, 1) := by decide +kernel
theorem dX3_passMinute_55 : decode cX3_passMinute 55 = .ok (.dup, 1) := by decide +kernel
theorem dX3_passMinute_56 : decode cX3_passMinute 56 = .ok (.getfield 67, 3) := by decide +kernel
theorem dX3_passMinute_59 : decode cX3_passMinute 59 = .ok (.iconst 1, 1) := by decide +kernel
theorem dX3_passMinute_60 : decode cX3_passMinute 60 = .ok (.iadd, 1) := by decide +kernel
theorem dX3_passMinute_61 : decode cX3_passMinute 61 = .ok (.putfield 67, 3) := by decide +kernel
theorem dX3_passMinute_64 : decode cX3_passMinute 64 = .ok (.return_, 1) := by decide +kernel
theorem dX3_walk_0 : decode cX3_walk 0 = .ok (.aload_n 1, 1) := by decide +kernel
theorem dX3_walk_1 : decode cX3_walk 1 = .ok (.iconst 1, 1) := by decide +kernel
theorem dX3_walk_2 : decode cX3_walk 2 = .ok (.putfield 107, 3) := by decide +kernel
theorem dX3_walk_5 : decode cX3_walk 5 = .ok (.aload_n 0, 1) := by decide +kernel
theorem dX3_walk_6 : decode cX3_walk 6 = .ok (.aload_n 1, 1) := by decide +kernel
theorem dX3_walk_7 : decode cX3_walk 7 = .ok (.invokevirtual 120, 3) := by decide +kernel
theorem dX3_walk_10 : decode cX3_walk 10 = .ok (.istore_n 2, 1) := by decide +kernel
theorem dX3_walk_11 : decode cX3_walk 11 = .ok (.aload_n 0, 1) := by decide +kernel
theorem dX3_walk_12 : decode cX3_walk 12 = .ok (.iload_n 2, 1) := by decide +kernel
theorem dX3_walk_13 : decode cX3_walk 13 = .ok (.invokevirtual 124, 3) := by decide +kernel
theorem dX3_walk_16 : decode cX3_walk 16 = .ok (.ifCond .ne 4, 3) := by decide +kernel
theorem dX3_walk_19 : decode cX3_walk 19 = .ok (.return_, 1) := by decide +kernel
theorem dX3_walk_20 : decode cX3_walk 20 = .ok (.aload_n 1, 1) := by decide +kernel
theorem dX3_walk_21 : decode cX3_walk 21 = .ok (.aload_n 1, 1) := by decide +kernel
theorem dX3_walk_22 : decode cX3_walk 22 = .ok (.getfield 80, 3) := by decide +kernel
theorem dX3_walk_25 : decode cX3_walk 25 = .ok (.aload_n 0, 1) := by decide +kernel
theorem dX3_walk_26 : decode cX3_walk 26 = .ok (.getfield 9, 3) := by decide +kernel
theorem dX3_walk_29 : decode cX3_walk 29 = .ok (.iload_n 2, 1) := by decide +kernel
theorem dX3_walk_30 : decode cX3_walk 30 = .ok (.iaload, 1) := by decide +kernel
theorem dX3_walk_31 : decode cX3_walk 31 = .ok (.aload_n 0, 1) := by decide +kernel
theorem dX3_walk_32 : decode cX3_walk 32 = .ok (.aload_n 1, 1) := by decide +kernel
theorem dX3_walk_33 : decode cX3_walk 33 = .ok (.invokevirtual 127, 3) := by decide +kernel
theorem dX3_walk_36 : decode cX3_walk 36 = .ok (.invokestatic 130, 3) := by decide +kernel
theorem dX3_walk_39 : decode cX3_walk 39 = .ok (.putfield 80, 3) := by decide +kernel
theorem dX3_walk_42 : decode cX3_walk 42 = .ok (.aload_n 1, 1) := by decide +kernel
theorem dX3_walk_43 : decode cX3_walk 43 = .ok (.getfield 80, 3) := by decide +kernel
theorem dX3_walk_46 : decode cX3_walk 46 = .ok (.aload_n 0, 1) := by decide +kernel
theorem dX3_walk_47 : decode cX3_walk 47 = .ok (.getfield 9, 3) := by decide +kernel
theorem dX3_walk_50 : decode cX3_walk 50 = .ok (.iload_n 2, 1) := by decide +kernel
theorem dX3_walk_51 : decode cX3_walk 51 = .ok (.iaload, 1) := by decide +kernel
theorem dX3_walk_52 : decode cX3_walk 52 = .ok (.if_icmp .eq 4, 3) := by decide +kernel
theorem dX3_walk_55 : decode cX3_walk 55 = .ok (.return_, 1) := by decide +kernel
theorem dX3_walk_56 : decode cX3_walk 56 = .ok (.aload_n 0, 1) := by decide +kernel
theorem dX3_walk_57 : decode cX3_walk 57 = .ok (.iload_n 2, 1) := by decide +kernel
theorem dX3_walk_58 : decode cX3_walk 58 = .ok (.invokevirtual 134, 3) := by decide +kernel
theorem dX3_walk_61 : decode cX3_walk 61 = .ok (.ifCond .eq 18, 3) := by decide +kernel
theorem dX3_walk_64 : decode cX3_walk 64 = .ok (.aload_n 1, 1) := by decide +kernel
theorem dX3_walk_65 : decode cX3_walk 65 = .ok (.dup, 1) := by decide +kernel
theorem dX3_walk_66 : decode cX3_walk 66 = .ok (.getfield 137, 3) := by decide +kernel
theorem dX3_walk_69 : decode cX3_walk 69 = .ok (.iconst 1, 1) := by decide +kernel
theorem dX3_walk_70 : decode cX3_walk 70 = .ok (.iload_n 2, 1) := by decide +kernel
theorem dX3_walk_71 : decode cX3_walk 71 = .ok (.ishl, 1) := by decide +kernel
theorem dX3_walk_72 : decode cX3_walk 72 = .ok (.ior, 1) := by decide +kernel
theorem dX3_walk_73 : decode cX3_walk 73 = .ok (.putfield 137, 3) := by decide +kernel
theorem dX3_walk_76 : decode cX3_walk 76 = .ok (.goto 8, 3) := by decide +kernel
theorem dX3_walk_79 : decode cX3_walk 79 = .ok (.aload_n 1, 1) := by decide +kernel
theorem dX3_walk_80 : decode cX3_walk 80 = .ok (.iconst 1, 1) := by decide +kernel
theorem dX3_walk_81 : decode cX3_walk 81 = .ok (.putfield 83, 3) := by decide +kernel
theorem dX3_walk_84 : decode cX3_walk 84 = .ok (.return_, 1) := by decide +kernel
theorem dX3_goRound_0 : decode cX3_goRound 0 = .ok (.aload_n 0, 1) := by decide +kernel
theorem dX3_goRound_1 : decode cX3_goRound 1 = .ok (.getfield 73, 3) := by decide +kernel
theorem dX3_goRound_4 : decode cX3_goRound 4 = .ok (.ifCond .le 14, 3) := by decide +kernel
theorem dX3_goRound_7 : decode cX3_goRound 7 = .ok (.aload_n 0, 1) := by decide +kernel
theorem dX3_goRound_8 : decode cX3_goRound 8 = .ok (.dup, 1) := by decide +kernel
theorem dX3_goRound_9 : decode cX3_goRound 9 = .ok (.getfield 73, 3) := by decide +kernel
theorem dX3_goRound_12 : decode cX3_goRound 12 = .ok (.iconst 1, 1) := by decide +kernel
theorem dX3_goRound_13 : decode cX3_goRound 13 = .ok (.isub, 1) := by decide +kernel
theorem dX3_goRound_14 : decode cX3_goRound 14 = .ok (.putfield 73, 3) := by decide +kernel
theorem dX3_goRound_17 : decode cX3_goRound 17 = .ok (.return_, 1) := by decide +kernel
theorem dX3_goRound_18 : decode cX3_goRound 18 = .ok (.aload_n 0, 1) := by decide +kernel
theorem dX3_goRound_19 : decode cX3_goRound 19 = .ok (.getfield 64, 3) := by decide +kernel
theorem dX3_goRound_22 : decode cX3_goRound 22 = .ok (.aload_n 0, 1) := by decide +kernel
theorem dX3_goRound_23 : decode cX3_goRound 23 = .ok (.getfield 61, 3) := by decide +kernel
theorem dX3_goRound_26 : decode cX3_goRound 26 = .ok (.if_icmp .lt 4, 3) := by decide +kernel
theorem dX3_goRound_29 : decode cX3_goRound 29 = .ok (.return_, 1) := by decide +kernel
theorem dX3_goRound_30 : decode cX3_goRound 30 = .ok (.aload_n 0, 1) := by decide +kernel
theorem dX3_goRound_31 : decode cX3_goRound 31 = .ok (.getfield 21, 3) := by decide +kernel
theorem dX3_goRound_34 : decode cX3_goRound 34 = .ok (.aload_n 0, 1) := by decide +kernel
theorem dX3_goRound_35 : decode cX3_goRound 35 = .ok (.getfield 64, 3) := by decide +kernel
theorem dX3_goRound_38 : decode cX3_goRound 38 = .ok (.iaload, 1) := by decide +kernel
theorem dX3_goRound_39 : decode cX3_goRound 39 = .ok (.istore_n 1, 1) := by decide +kernel
theorem dX3_goRound_40 : decode cX3_goRound 40 = .ok (.aload_n 0, 1) := by decide +kernel
theorem dX3_goRound_41 : decode cX3_goRound 41 = .ok (.aload_n 0, 1) := by decide +kernel
theorem dX3_goRound_42 : decode cX3_goRound 42 = .ok (.getfield 58, 3) := by decide +kernel
theorem dX3_goRound_45 : decode cX3_goRound 45 = .ok (.aload_n 0, 1) := by decide +kernel
theorem dX3_goRound_46 : decode cX3_goRound 46 = .ok (.getfield 9, 3) := by decide +kernel
theorem dX3_goRound_49 : decode cX3_goRound 49 = .ok (.iload_n 1, 1) := by decide +kernel
theorem dX3_goRound_50 : decode cX3_goRound 50 = .ok (.iaload, 1) := by decide +kernel
theorem dX3_goRound_51 : decode cX3_goRound 51 = .ok (.aload_n 0, 1) := by decide +kernel
theorem dX3_goRound_52 : decode cX3_goRound 52 = .ok (.getfield 70, 3) := by decide +kernel
theorem dX3_goRound_55 : decode cX3_goRound 55 = .ok (.ifCond .le 10, 3) := by decide +kernel
theorem dX3_goRound_58 : decode cX3_goRound 58 = .ok (.aload_n 0, 1) := by decide +kernel
theorem dX3_goRound_59 : decode cX3_goRound 59 = .ok (.getfield 70, 3) := by decide +kernel
theorem dX3_goRound_62 : decode cX3_goRound 62 = .ok (.goto 10, 3) := by decide +kernel
theorem dX3_goRound_65 : decode cX3_goRound 65 = .ok (.aload_n 0, 1) := by decide +kernel
theorem dX3_goRound_66 : decode cX3_goRound 66 = .ok (.getfield 30, 3) := by decide +kernel
theorem dX3_goRound_69 : decode cX3_goRound 69 = .ok (.getfield 140, 3) := by decide +kernel
theorem dX3_goRound_72 : decode cX3_goRound 72 = .ok (.invokestatic 130, 3) := by decide +kernel
theorem dX3_goRound_75 : decode cX3_goRound 75 = .ok (.putfield 58, 3) := by decide +kernel
theorem dX3_goRound_78 : decode cX3_goRound 78 = .ok (.aload_n 0, 1) := by decide +kernel
theorem dX3_goRound_79 : decode cX3_goRound 79 = .ok (.getfield 58, 3) := by decide +kernel
theorem dX3_goRound_82 : decode cX3_goRound 82 = .ok (.aload_n 0, 1) := by decide +kernel
theorem dX3_goRound_83 : decode cX3_goRound 83 = .ok (.getfield 9, 3) := by decide +kernel
theorem dX3_goRound_86 : decode cX3_goRound 86 = .ok (.iload_n 1, 1) := by decide +kernel
theorem dX3_goRound_87 : decode cX3_goRound 87 = .ok (.iaload, 1) := by decide +kernel
theorem dX3_goRound_88 : decode cX3_goRound 88 = .ok (.if_icmp .eq 4, 3) := by decide +kernel
theorem dX3_goRound_91 : decode cX3_goRound 91 = .ok (.return_, 1) := by decide +kernel
theorem dX3_goRound_92 : decode cX3_goRound 92 = .ok (.iload_n 1, 1) := by decide +kernel
theorem dX3_goRound_93 : decode cX3_goRound 93 = .ok (.aload_n 0, 1) := by decide +kernel
theorem dX3_goRound_94 : decode cX3_goRound 94 = .ok (.getfield 34, 3) := by decide +kernel
theorem dX3_goRound_97 : decode cX3_goRound 97 = .ok (.if_icmp .eq 9, 3) := by decide +kernel
theorem dX3_goRound_100 : decode cX3_goRound 100 = .ok (.aload_n 0, 1) := by decide +kernel
theorem dX3_goRound_101 : decode cX3_goRound 101 = .ok (.iload_n 1, 1) := by decide +kernel
theorem dX3_goRound_102 : decode cX3_goRound 102 = .ok (.iconst 1, 1) := by decide +kernel
theorem dX3_goRound_103 : decode cX3_goRound 103 = .ok (.invokevirtual 87, 3) := by decide +kernel
theorem dX3_goRound_106 : decode cX3_goRound 106 = .ok (.aload_n 0, 1) := by decide +kernel
theorem dX3_goRound_107 : decode cX3_goRound 107 = .ok (.dup, 1) := by decide +kernel
theorem dX3_goRound_108 : decode cX3_goRound 108 = .ok (.getfield 64, 3) := by decide +kernel
theorem dX3_goRound_111 : decode cX3_goRound 111 = .ok (.iconst 1, 1) := by decide +kernel
theorem dX3_goRound_112 : decode cX3_goRound 112 = .ok (.iadd, 1) := by decide +kernel
theorem dX3_goRound_113 : decode cX3_goRound 113 = .ok (.putfield 64, 3) := by decide +kernel
theorem dX3_goRound_116 : decode cX3_goRound 116 = .ok (.return_, 1) := by decide +kernel
theorem dX3_ears_0 : decode cX3_ears 0 = .ok (.aload_n 0, 1) := by decide +kernel
theorem dX3_ears_1 : decode cX3_ears 1 = .ok (.getfield 17, 3) := by decide +kernel
theorem dX3_ears_4 : decode cX3_ears 4 = .ok (.iload_n 1, 1) := by decide +kernel
theorem dX3_ears_5 : decode cX3_ears 5 = .ok (.aaload, 1) := by decide +kernel
theorem dX3_ears_6 : decode cX3_ears 6 = .ok (.astore_n 2, 1) := by decide +kernel
theorem dX3_ears_7 : decode cX3_ears 7 = .ok (.aload_n 0, 1) := by decide +kernel
theorem dX3_ears_8 : decode cX3_ears 8 = .ok (.getfield 26, 3) := by decide +kernel
theorem dX3_ears_11 : decode cX3_ears 11 = .ok (.iconst 0, 1) := by decide +kernel
theorem dX3_ears_12 : decode cX3_ears 12 = .ok (.iload_n 1, 1) := by decide +kernel
theorem dX3_ears_13 : decode cX3_ears 13 = .ok (.iastore, 1) := by decide +kernel
theorem dX3_ears_14 : decode cX3_ears 14 = .ok (.aload_n 0, 1) := by decide +kernel
theorem dX3_ears_15 : decode cX3_ears 15 = .ok (.getfield 26, 3) := by decide +kernel
theorem dX3_ears_18 : decode cX3_ears 18 = .ok (.iconst 1, 1) := by decide +kernel
theorem dX3_ears_19 : decode cX3_ears 19 = .ok (.aload_n 2, 1) := by decide +kernel
theorem dX3_ears_20 : decode cX3_ears 20 = .ok (.getfield 143, 3) := by decide +kernel
theorem dX3_ears_23 : decode cX3_ears 23 = .ok (.iastore, 1) := by decide +kernel
theorem dX3_ears_24 : decode cX3_ears 24 = .ok (.aload_n 0, 1) := by decide +kernel
theorem dX3_ears_25 : decode cX3_ears 25 = .ok (.getfield 26, 3) := by decide +kernel
theorem dX3_ears_28 : decode cX3_ears 28 = .ok (.iconst 2, 1) := by decide +kernel
theorem dX3_ears_29 : decode cX3_ears 29 = .ok (.aload_n 2, 1) := by decide +kernel
theorem dX3_ears_30 : decode cX3_ears 30 = .ok (.getfield 146, 3) := by decide +kernel
theorem dX3_ears_33 : decode cX3_ears 33 = .ok (.iastore, 1) := by decide +kernel
theorem dX3_ears_34 : decode cX3_ears 34 = .ok (.aload_n 0, 1) := by decide +kernel
theorem dX3_ears_35 : decode cX3_ears 35 = .ok (.getfield 26, 3) := by decide +kernel
theorem dX3_ears_38 : decode cX3_ears 38 = .ok (.iconst 3, 1) := by decide +kernel
theorem dX3_ears_39 : decode cX3_ears 39 = .ok (.aload_n 2, 1) := by decide +kernel
theorem dX3_ears_40 : decode cX3_ears 40 = .ok (.getfield 80, 3) := by decide +kernel
theorem dX3_ears_43 : decode cX3_ears 43 = .ok (.iastore, 1) := by decide +kernel
theorem dX3_ears_44 : decode cX3_ears 44 = .ok (.aload_n 0, 1) := by decide +kernel
theorem dX3_ears_45 : decode cX3_ears 45 = .ok (.getfield 26, 3) := by decide +kernel
theorem dX3_ears_48 : decode cX3_ears 48 = .ok (.iconst 4, 1) := by decide +kernel
theorem dX3_ears_49 : decode cX3_ears 49 = .ok (.aload_n 2, 1) := by decide +kernel
theorem dX3_ears_50 : decode cX3_ears 50 = .ok (.getfield 137, 3) := by decide +kernel
theorem dX3_ears_53 : decode cX3_ears 53 = .ok (.invokestatic 95, 3) := by decide +kernel
theorem dX3_ears_56 : decode cX3_ears 56 = .ok (.iastore, 1) := by decide +kernel
theorem dX3_ears_57 : decode cX3_ears 57 = .ok (.aload_n 0, 1) := by decide +kernel
theorem dX3_ears_58 : decode cX3_ears 58 = .ok (.getfield 26, 3) := by decide +kernel
theorem dX3_ears_61 : decode cX3_ears 61 = .ok (.iconst 5, 1) := by decide +kernel
theorem dX3_ears_62 : decode cX3_ears 62 = .ok (.aload_n 0, 1) := by decide +kernel
theorem dX3_ears_63 : decode cX3_ears 63 = .ok (.getfield 67, 3) := by decide +kernel
theorem dX3_ears_66 : decode cX3_ears 66 = .ok (.bipush 10, 2) := by decide +kernel
theorem dX3_ears_68 : decode cX3_ears 68 = .ok (.irem, 1) := by decide +kernel
theorem dX3_ears_69 : decode cX3_ears 69 = .ok (.iastore, 1) := by decide +kernel
theorem dX3_ears_70 : decode cX3_ears 70 = .ok (.aload_n 0, 1) := by decide +kernel
theorem dX3_ears_71 : decode cX3_ears 71 = .ok (.getfield 30, 3) := by decide +kernel
theorem dX3_ears_74 : decode cX3_ears 74 = .ok (.aload_n 0, 1) := by decide +kernel
theorem dX3_ears_75 : decode cX3_ears 75 = .ok (.getfield 26, 3) := by decide +kernel
theorem dX3_ears_78 : decode cX3_ears 78 = .ok (.invokevirtual 149, 3) := by decide +kernel
theorem dX3_ears_81 : decode cX3_ears 81 = .ok (.ireturn, 1) := by decide +kernel
theorem dX3_hears_0 : decode cX3_hears 0 = .ok (.aload_n 0, 1) := by decide +kernel
theorem dX3_hears_1 : decode cX3_hears 1 = .ok (.getfield 17, 3) := by decide +kernel
theorem dX3_hears_4 : decode cX3_hears 4 = .ok (.iload_n 1, 1) := by decide +kernel
theorem dX3_hears_5 : decode cX3_hears 5 = .ok (.aaload, 1) := by decide +kernel
theorem dX3_hears_6 : decode cX3_hears 6 = .ok (.getfield 80, 3) := by decide +kernel
theorem dX3_hears_9 : decode cX3_hears 9 = .ok (.aload_n 0, 1) := by decide +kernel
theorem dX3_hears_10 : decode cX3_hears 10 = .ok (.getfield 58, 3) := by decide +kernel
theorem dX3_hears_13 : decode cX3_hears 13 = .ok (.invokestatic 153, 3) := by decide +kernel
theorem dX3_hears_16 : decode cX3_hears 16 = .ok (.aload_n 0, 1) := by decide +kernel
theorem dX3_hears_17 : decode cX3_hears 17 = .ok (.getfield 30, 3) := by decide +kernel
theorem dX3_hears_20 : decode cX3_hears 20 = .ok (.getfield 157, 3) := by decide +kernel
theorem dX3_hears_23 : decode cX3_hears 23 = .ok (.aload_n 0, 1) := by decide +kernel
theorem dX3_hears_24 : decode cX3_hears 24 = .ok (.iload_n 1, 1) := by decide +kernel
theorem dX3_hears_25 : decode cX3_hears 25 = .ok (.invokevirtual 160, 3) := by decide +kernel
theorem dX3_hears_28 : decode cX3_hears 28 = .ok (.iadd, 1) := by decide +kernel
theorem dX3_hears_29 : decode cX3_hears 29 = .ok (.if_icmp .gt 7, 3) := by decide +kernel
theorem dX3_hears_32 : decode cX3_hears 32 = .ok (.iconst 1, 1) := by decide +kernel
theorem dX3_hears_33 : decode cX3_hears 33 = .ok (.goto 4, 3) := by decide +kernel
theorem dX3_hears_36 : decode cX3_hears 36 = .ok (.iconst 0, 1) := by decide +kernel
theorem dX3_hears_37 : decode cX3_hears 37 = .ok (.ireturn, 1) := by decide +kernel
theorem dX3_steps_0 : decode cX3_steps 0 = .ok (.aload_n 1, 1) := by decide +kernel
theorem dX3_steps_1 : decode cX3_steps 1 = .ok (.getfield 143, 3) := by decide +kernel
theorem dX3_steps_4 : decode cX3_steps 4 = .ok (.tableswitch 102 1 6 #[40, 42, 102, 57, 73, 88], 40) := by decide +kernel
theorem dX3_steps_44 : decode cX3_steps 44 = .ok (.iconst 1, 1) := by decide +kernel
theorem dX3_steps_45 : decode cX3_steps 45 = .ok (.ireturn, 1) := by decide +kernel
theorem dX3_steps_46 : decode cX3_steps 46 = .ok (.aload_n 0, 1) := by decide +kernel
theorem dX3_steps_47 : decode cX3_steps 47 = .ok (.getfield 67, 3) := by decide +kernel
theorem dX3_steps_50 : decode cX3_steps 50 = .ok (.iconst 3, 1) := by decide +kernel
theorem dX3_steps_51 : decode cX3_steps 51 = .ok (.irem, 1) := by decide +kernel
theorem dX3_steps_52 : decode cX3_steps 52 = .ok (.ifCond .ne 7, 3) := by decide +kernel
theorem dX3_steps_55 : decode cX3_steps 55 = .ok (.iconst 0, 1) := by decide +kernel
theorem dX3_steps_56 : decode cX3_steps 56 = .ok (.goto 4, 3) := by decide +kernel
theorem dX3_steps_59 : decode cX3_steps 59 = .ok (.iconst 3, 1) := by decide +kernel
theorem dX3_steps_60 : decode cX3_steps 60 = .ok (.ireturn, 1) := by decide +kernel
theorem dX3_steps_61 : decode cX3_steps 61 = .ok (.aload_n 0, 1) := by decide +kernel
theorem dX3_steps_62 : decode cX3_steps 62 = .ok (.getfield 67, 3) := by decide +kernel
theorem dX3_steps_65 : decode cX3_steps 65 = .ok (.iconst 2, 1) := by decide +kernel
theorem dX3_steps_66 : decode cX3_steps 66 = .ok (.irem, 1) := by decide +kernel
theorem dX3_steps_67 : decode cX3_steps 67 = .ok (.iconst 1, 1) := by decide +kernel
theorem dX3_steps_68 : decode cX3_steps 68 = .ok (.if_icmp .ne 7, 3) := by decide +kernel
theorem dX3_steps_71 : decode cX3_steps 71 = .ok (.iconst 0, 1) := by decide +kernel
theorem dX3_steps_72 : decode cX3_steps 72 = .ok (.goto 4, 3) := by decide +kernel
theorem dX3_steps_75 : decode cX3_steps 75 = .ok (.iconst 1, 1) := by decide +kernel
theorem dX3_steps_76 : decode cX3_steps 76 = .ok (.ireturn, 1) := by decide +kernel
theorem dX3_steps_77 : decode cX3_steps 77 = .ok (.aload_n 0, 1) := by decide +kernel
theorem dX3_steps_78 : decode cX3_steps 78 = .ok (.getfield 67, 3) := by decide +kernel
theorem dX3_steps_81 : decode cX3_steps 81 = .ok (.iconst 3, 1) := by decide +kernel
theorem dX3_steps_82 : decode cX3_steps 82 = .ok (.irem, 1) := by decide +kernel
theorem dX3_steps_83 : decode cX3_steps 83 = .ok (.ifCond .ne 7, 3) := by decide +kernel
theorem dX3_steps_86 : decode cX3_steps 86 = .ok (.iconst 1, 1) := by decide +kernel
theorem dX3_steps_87 : decode cX3_steps 87 = .ok (.goto 4, 3) := by decide +kernel
theorem dX3_steps_90 : decode cX3_steps 90 = .ok (.iconst 4, 1) := by decide +kernel
theorem dX3_steps_91 : decode cX3_steps 91 = .ok (.ireturn, 1) := by decide +kernel
theorem dX3_steps_92 : decode cX3_steps 92 = .ok (.iconst 2, 1) := by decide +kernel
theorem dX3_steps_93 : decode cX3_steps 93 = .ok (.aload_n 1, 1) := by decide +kernel
theorem dX3_steps_94 : decode cX3_steps 94 = .ok (.getfield 163, 3) := by decide +kernel
theorem dX3_steps_97 : decode cX3_steps 97 = .ok (.aload_n 0, 1) := by decide +kernel
theorem dX3_steps_98 : decode cX3_steps 98 = .ok (.getfield 67, 3) := by decide +kernel
theorem dX3_steps_101 : decode cX3_steps 101 = .ok (.iconst 4, 1) := by decide +kernel
theorem dX3_steps_102 : decode cX3_steps 102 = .ok (.irem, 1) := by decide +kernel
theorem dX3_steps_103 : decode cX3_steps 103 = .ok (.iaload, 1) := by decide +kernel
theorem dX3_steps_104 : decode cX3_steps 104 = .ok (.iadd, 1) := by decide +kernel
theorem dX3_steps_105 : decode cX3_steps 105 = .ok (.ireturn, 1) := by decide +kernel
theorem dX3_steps_106 : decode cX3_steps 106 = .ok (.iconst 2, 1) := by decide +kernel
theorem dX3_steps_107 : decode cX3_steps 107 = .ok (.ireturn, 1) := by decide +kernel
theorem dX3_goal_0 : decode cX3_goal 0 = .ok (.aload_n 1, 1) := by decide +kernel
theorem dX3_goal_1 : decode cX3_goal 1 = .ok (.getfield 143, 3) := by decide +kernel
theorem dX3_goal_4 : decode cX3_goal 4 = .ok (.iconst 3, 1) := by decide +kernel
theorem dX3_goal_5 : decode cX3_goal 5 = .ok (.if_icmp .eq 12, 3) := by decide +kernel
theorem dX3_goal_8 : decode cX3_goal 8 = .ok (.aload_n 1, 1) := by decide +kernel
theorem dX3_goal_9 : decode cX3_goal 9 = .ok (.getfield 143, 3) := by decide +kernel
theorem dX3_goal_12 : decode cX3_goal 12 = .ok (.bipush 6, 2) := by decide +kernel
theorem dX3_goal_14 : decode cX3_goal 14 = .ok (.if_icmp .ne 7, 3) := by decide +kernel
theorem dX3_goal_17 : decode cX3_goal 17 = .ok (.iconst 1, 1) := by decide +kernel
theorem dX3_goal_18 : decode cX3_goal 18 = .ok (.goto 4, 3) := by decide +kernel
theorem dX3_goal_21 : decode cX3_goal 21 = .ok (.iconst 0, 1) := by decide +kernel
theorem dX3_goal_22 : decode cX3_goal 22 = .ok (.istore_n 2, 1) := by decide +kernel
theorem dX3_goal_23 : decode cX3_goal 23 = .ok (.bipush (-5), 2) := by decide +kernel
theorem dX3_goal_25 : decode cX3_goal 25 = .ok (.istore_n 3, 1) := by decide +kernel
theorem dX3_goal_26 : decode cX3_goal 26 = .ok (.iconst 0, 1) := by decide +kernel
theorem dX3_goal_27 : decode cX3_goal 27 = .ok (.istore 4, 2) := by decide +kernel
theorem dX3_goal_29 : decode cX3_goal 29 = .ok (.iconst 0, 1) := by decide +kernel
theorem dX3_goal_30 : decode cX3_goal 30 = .ok (.istore 5, 2) := by decide +kernel
theorem dX3_goal_32 : decode cX3_goal 32 = .ok (.iload 5, 2) := by decide +kernel
theorem dX3_goal_34 : decode cX3_goal 34 = .ok (.aload_n 0, 1) := by decide +kernel
theorem dX3_goal_35 : decode cX3_goal 35 = .ok (.getfield 52, 3) := by decide +kernel
theorem dX3_goal_38 : decode cX3_goal 38 = .ok (.if_icmp .ge 77, 3) := by decide +kernel
theorem dX3_goal_41 : decode cX3_goal 41 = .ok (.aload_n 1, 1) := by decide +kernel
theorem dX3_goal_42 : decode cX3_goal 42 = .ok (.getfield 137, 3) := by decide +kernel
theorem dX3_goal_45 : decode cX3_goal 45 = .ok (.iload 5, 2) := by decide +kernel
theorem dX3_goal_47 : decode cX3_goal 47 = .ok (.ishr, 1) := by decide +kernel
theorem dX3_goal_48 : decode cX3_goal 48 = .ok (.iconst 1, 1) := by decide +kernel
theorem dX3_goal_49 : decode cX3_goal 49 = .ok (.iand, 1) := by decide +kernel
theorem dX3_goal_50 : decode cX3_goal 50 = .ok (.ifCond .ne 59, 3) := by decide +kernel
theorem dX3_goal_53 : decode cX3_goal 53 = .ok (.iload_n 2, 1) := by decide +kernel
theorem dX3_goal_54 : decode cX3_goal 54 = .ok (.ifCond .eq 21, 3) := by decide +kernel
theorem dX3_goal_57 : decode cX3_goal 57 = .ok (.aload_n 0, 1) := by decide +kernel
theorem dX3_goal_58 : decode cX3_goal 58 = .ok (.getfield 58, 3) := by decide +kernel
theorem dX3_goal_61 : decode cX3_goal 61 = .ok (.aload_n 0, 1) := by decide +kernel
theorem dX3_goal_62 : decode cX3_goal 62 = .ok (.getfield 9, 3) := by decide +kernel
theorem dX3_goal_65 : decode cX3_goal 65 = .ok (.iload 5, 2) := by decide +kernel
theorem dX3_goal_67 : decode cX3_goal 67 = .ok (.iaload, 1) := by decide +kernel
theorem dX3_goal_68 : decode cX3_goal 68 = .ok (.invokestatic 153, 3) := by decide +kernel
theorem dX3_goal_71 : decode cX3_goal 71 = .ok (.ineg, 1) := by decide +kernel
theorem dX3_goal_72 : decode cX3_goal 72 = .ok (.goto 17, 3) := by decide +kernel
theorem dX3_goal_75 : decode cX3_goal 75 = .ok (.aload_n 1, 1) := by decide +kernel
theorem dX3_goal_76 : decode cX3_goal 76 = .ok (.getfield 80, 3) := by decide +kernel
theorem dX3_goal_79 : decode cX3_goal 79 = .ok (.aload_n 0, 1) := by decide +kernel
theorem dX3_goal_80 : decode cX3_goal 80 = .ok (.getfield 9, 3) := by decide +kernel
theorem dX3_goal_83 : decode cX3_goal 83 = .ok (.iload 5, 2) := by decide +kernel
theorem dX3_goal_85 : decode cX3_goal 85 = .ok (.iaload, 1) := by decide +kernel
theorem dX3_goal_86 : decode cX3_goal 86 = .ok (.invokestatic 153, 3) := by decide +kernel
theorem dX3_goal_89 : decode cX3_goal 89 = .ok (.istore 6, 2) := by decide +kernel
theorem dX3_goal_91 : decode cX3_goal 91 = .ok (.iload_n 3, 1) := by decide +kernel
theorem dX3_goal_92 : decode cX3_goal 92 = .ok (.ifCond .lt 10, 3) := by decide +kernel
theorem dX3_goal_95 : decode cX3_goal 95 = .ok (.iload 6, 2) := by decide +kernel
theorem dX3_goal_97 : decode cX3_goal 97 = .ok (.iload 4, 2) := by decide +kernel
theorem dX3_goal_99 : decode cX3_goal 99 = .ok (.if_icmp .ge 10, 3) := by decide +kernel
theorem dX3_goal_102 : decode cX3_goal 102 = .ok (.iload 5, 2) := by decide +kernel
theorem dX3_goal_104 : decode cX3_goal 104 = .ok (.istore_n 3, 1) := by decide +kernel
theorem dX3_goal_105 : decode cX3_goal 105 = .ok (.iload 6, 2) := by decide +kernel
theorem dX3_goal_107 : decode cX3_goal 107 = .ok (.istore 4, 2) := by decide +kernel
theorem dX3_goal_109 : decode cX3_goal 109 = .ok (.iinc 5 1, 3) := by decide +kernel
theorem dX3_goal_112 : decode cX3_goal 112 = .ok (.goto (-80), 3) := by decide +kernel
theorem dX3_goal_115 : decode cX3_goal 115 = .ok (.iload_n 3, 1) := by decide +kernel
theorem dX3_goal_116 : decode cX3_goal 116 = .ok (.ireturn, 1) := by decide +kernel
theorem dX3_way_0 : decode cX3_way 0 = .ok (.iload_n 1, 1) := by decide +kernel
theorem dX3_way_1 : decode cX3_way 1 = .ok (.iload_n 0, 1) := by decide +kernel
theorem dX3_way_2 : decode cX3_way 2 = .ok (.isub, 1) := by decide +kernel
theorem dX3_way_3 : decode cX3_way 3 = .ok (.bipush 30, 2) := by decide +kernel
theorem dX3_way_5 : decode cX3_way 5 = .ok (.invokestatic 166, 3) := by decide +kernel
theorem dX3_way_8 : decode cX3_way 8 = .ok (.istore_n 2, 1) := by decide +kernel
theorem dX3_way_9 : decode cX3_way 9 = .ok (.iload_n 2, 1) := by decide +kernel
theorem dX3_way_10 : decode cX3_way 10 = .ok (.bipush 30, 2) := by decide +kernel
theorem dX3_way_12 : decode cX3_way 12 = .ok (.iload_n 2, 1) := by decide +kernel
theorem dX3_way_13 : decode cX3_way 13 = .ok (.isub, 1) := by decide +kernel
theorem dX3_way_14 : decode cX3_way 14 = .ok (.invokestatic 171, 3) := by decide +kernel
theorem dX3_way_17 : decode cX3_way 17 = .ok (.ireturn, 1) := by decide +kernel
theorem dX3_toward_0 : decode cX3_toward 0 = .ok (.iload_n 1, 1) := by decide +kernel
theorem dX3_toward_1 : decode cX3_toward 1 = .ok (.iload_n 0, 1) := by decide +kernel
theorem dX3_toward_2 : decode cX3_toward 2 = .ok (.isub, 1) := by decide +kernel
theorem dX3_toward_3 : decode cX3_toward 3 = .ok (.bipush 30, 2) := by decide +kernel
theorem dX3_toward_5 : decode cX3_toward 5 = .ok (.invokestatic 166, 3) := by decide +kernel
theorem dX3_toward_8 : decode cX3_toward 8 = .ok (.istore_n 3, 1) := by decide +kernel
theorem dX3_toward_9 : decode cX3_toward 9 = .ok (.iload_n 2, 1) := by decide +kernel
theorem dX3_toward_10 : decode cX3_toward 10 = .ok (.iload_n 3, 1) := by decide +kernel
theorem dX3_toward_11 : decode cX3_toward 11 = .ok (.bipush 30, 2) := by decide +kernel
theorem dX3_toward_13 : decode cX3_toward 13 = .ok (.iload_n 3, 1) := by decide +kernel
theorem dX3_toward_14 : decode cX3_toward 14 = .ok (.isub, 1) := by decide +kernel
theorem dX3_toward_15 : decode cX3_toward 15 = .ok (.invokestatic 171, 3) := by decide +kernel
theorem dX3_toward_18 : decode cX3_toward 18 = .ok (.invokestatic 171, 3) := by decide +kernel
theorem dX3_toward_21 : decode cX3_toward 21 = .ok (.istore 4, 2) := by decide +kernel
theorem dX3_toward_23 : decode cX3_toward 23 = .ok (.iload_n 3, 1) := by decide +kernel
theorem dX3_toward_24 : decode cX3_toward 24 = .ok (.iconst 2, 1) := by decide +kernel
theorem dX3_toward_25 : decode cX3_toward 25 = .ok (.imul, 1) := by decide +kernel
theorem dX3_toward_26 : decode cX3_toward 26 = .ok (.bipush 30, 2) := by decide +kernel
theorem dX3_toward_28 : decode cX3_toward 28 = .ok (.if_icmp .gt 10, 3) := by decide +kernel
theorem dX3_toward_31 : decode cX3_toward 31 = .ok (.iload_n 0, 1) := by decide +kernel
theorem dX3_toward_32 : decode cX3_toward 32 = .ok (.iload 4, 2) := by decide +kernel
theorem dX3_toward_34 : decode cX3_toward 34 = .ok (.iadd, 1) := by decide +kernel
theorem dX3_toward_35 : decode cX3_toward 35 = .ok (.goto 7, 3) := by decide +kernel
theorem dX3_toward_38 : decode cX3_toward 38 = .ok (.iload_n 0, 1) := by decide +kernel
theorem dX3_toward_39 : decode cX3_toward 39 = .ok (.iload 4, 2) := by decide +kernel
theorem dX3_toward_41 : decode cX3_toward 41 = .ok (.isub, 1) := by decide +kernel
theorem dX3_toward_42 : decode cX3_toward 42 = .ok (.bipush 30, 2) := by decide +kernel
theorem dX3_toward_44 : decode cX3_toward 44 = .ok (.invokestatic 166, 3) := by decide +kernel
theorem dX3_toward_47 : decode cX3_toward 47 = .ok (.ireturn, 1) := by decide +kernel
theorem dX4_init_0 : decode cX4_init 0 = .ok (.aload_n 0, 1) := by decide +kernel
theorem dX4_init_1 : decode cX4_init 1 = .ok (.invokespecial 3, 3) := by decide +kernel
theorem dX4_init_4 : decode cX4_init 4 = .ok (.aload_n 0, 1) := by decide +kernel
theorem dX4_init_5 : decode cX4_init 5 = .ok (.iconst 4, 1) := by decide +kernel
theorem dX4_init_6 : decode cX4_init 6 = .ok (.newarray .int, 2) := by decide +kernel
theorem dX4_init_8 : decode cX4_init 8 = .ok (.putfield 9, 3) := by decide +kernel
theorem dX4_init_11 : decode cX4_init 11 = .ok (.return_, 1) := by decide +kernel
theorem dX4_begin_0 : decode cX4_begin 0 = .ok (.aload_n 0, 1) := by decide +kernel
theorem dX4_begin_1 : decode cX4_begin 1 = .ok (.iload_n 1, 1) := by decide +kernel
theorem dX4_begin_2 : decode cX4_begin 2 = .ok (.putfield 15, 3) := by decide +kernel
theorem dX4_begin_5 : decode cX4_begin 5 = .ok (.aload_n 0, 1) := by decide +kernel
theorem dX4_begin_6 : decode cX4_begin 6 = .ok (.iload_n 2, 1) := by decide +kernel
theorem dX4_begin_7 : decode cX4_begin 7 = .ok (.putfield 19, 3) := by decide +kernel
theorem dX4_begin_10 : decode cX4_begin 10 = .ok (.aload_n 0, 1) := by decide +kernel
theorem dX4_begin_11 : decode cX4_begin 11 = .ok (.iload_n 3, 1) := by decide +kernel
theorem dX4_begin_12 : decode cX4_begin 12 = .ok (.putfield 22, 3) := by decide +kernel
theorem dX4_begin_15 : decode cX4_begin 15 = .ok (.aload_n 0, 1) := by decide +kernel
theorem dX4_begin_16 : decode cX4_begin 16 = .ok (.iconst 0, 1) := by decide +kernel
theorem dX4_begin_17 : decode cX4_begin 17 = .ok (.putfield 25, 3) := by decide +kernel
theorem dX4_begin_20 : decode cX4_begin 20 = .ok (.aload_n 0, 1) := by decide +kernel
theorem dX4_begin_21 : decode cX4_begin 21 = .ok (.iconst 0, 1) := by decide +kernel
theorem dX4_begin_22 : decode cX4_begin 22 = .ok (.putfield 28, 3) := by decide +kernel
theorem dX4_begin_25 : decode cX4_begin 25 = .ok (.aload_n 0, 1) := by decide +kernel
theorem dX4_begin_26 : decode cX4_begin 26 = .ok (.iconst 0, 1) := by decide +kernel
theorem dX4_begin_27 : decode cX4_begin 27 = .ok (.putfield 32, 3) := by decide +kernel
theorem dX4_begin_30 : decode cX4_begin 30 = .ok (.iconst 0, 1) := by decide +kernel
theorem dX4_begin_31 : decode cX4_begin 31 = .ok (.istore 4, 2) := by decide +kernel
theorem dX4_begin_33 : decode cX4_begin 33 = .ok (.iload 4, 2) := by decide +kernel
theorem dX4_begin_35 : decode cX4_begin 35 = .ok (.iconst 4, 1) := by decide +kernel
theorem dX4_begin_36 : decode cX4_begin 36 = .ok (.if_icmp .ge 17, 3) := by decide +kernel
theorem dX4_begin_39 : decode cX4_begin 39 = .ok (.aload_n 0, 1) := by decide +kernel
theorem dX4_begin_40 : decode cX4_begin 40 = .ok (.getfield 9, 3) := by decide +kernel
theorem dX4_begin_43 : decode cX4_begin 43 = .ok (.iload 4, 2) := by decide +kernel
theorem dX4_begin_45 : decode cX4_begin 45 = .ok (.iconst 0, 1) := by decide +kernel
theorem dX4_begin_46 : decode cX4_begin 46 = .ok (.iastore, 1) := by decide +kernel
theorem dX4_begin_47 : decode cX4_begin 47 = .ok (.iinc 4 1, 3) := by decide +kernel
theorem dX4_begin_50 : decode cX4_begin 50 = .ok (.goto (-17), 3) := by decide +kernel
theorem dX4_begin_53 : decode cX4_begin 53 = .ok (.return_, 1) := by decide +kernel
theorem dX4_copyFrom_0 : decode cX4_copyFrom 0 = .ok (.aload_n 0, 1) := by decide +kernel
theorem dX4_copyFrom_1 : decode cX4_copyFrom 1 = .ok (.aload_n 1, 1) := by decide +kernel
theorem dX4_copyFrom_2 : decode cX4_copyFrom 2 = .ok (.getfield 15, 3) := by decide +kernel
theorem dX4_copyFrom_5 : decode cX4_copyFrom 5 = .ok (.putfield 15, 3) := by decide +kernel
theorem dX4_copyFrom_8 : decode cX4_copyFrom 8 = .ok (.aload_n 0, 1) := by decide +kernel
theorem dX4_copyFrom_9 : decode cX4_copyFrom 9 = .ok (.aload_n 1, 1) := by decide +kernel
theorem dX4_copyFrom_10 : decode cX4_copyFrom 10 = .ok (.getfield 19, 3) := by decide +kernel
theorem dX4_copyFrom_13 : decode cX4_copyFrom 13 = .ok (.putfield 19, 3) := by decide +kernel
theorem dX4_copyFrom_16 : decode cX4_copyFrom 16 = .ok (.aload_n 0, 1) := by decide +kernel
theorem dX4_copyFrom_17 : decode cX4_copyFrom 17 = .ok (.aload_n 1, 1) := by decide +kernel
theorem dX4_copyFrom_18 : decode cX4_copyFrom 18 = .ok (.getfield 22, 3) := by decide +kernel
theorem dX4_copyFrom_21 : decode cX4_copyFrom 21 = .ok (.putfield 22, 3) := by decide +kernel
theorem dX4_copyFrom_24 : decode cX4_copyFrom 24 = .ok (.aload_n 0, 1) := by decide +kernel
theorem dX4_copyFrom_25 : decode cX4_copyFrom 25 = .ok (.aload_n 1, 1) := by decide +kernel
theorem dX4_copyFrom_26 : decode cX4_copyFrom 26 = .ok (.getfield 25, 3) := by decide +kernel
theorem dX4_copyFrom_29 : decode cX4_copyFrom 29 = .ok (.putfield 25, 3) := by decide +kernel
theorem dX4_copyFrom_32 : decode cX4_copyFrom 32 = .ok (.aload_n 0, 1) := by decide +kernel
theorem dX4_copyFrom_33 : decode cX4_copyFrom 33 = .ok (.aload_n 1, 1) := by decide +kernel
theorem dX4_copyFrom_34 : decode cX4_copyFrom 34 = .ok (.getfield 28, 3) := by decide +kernel
theorem dX4_copyFrom_37 : decode cX4_copyFrom 37 = .ok (.putfield 28, 3) := by decide +kernel
theorem dX4_copyFrom_40 : decode cX4_copyFrom 40 = .ok (.aload_n 0, 1) := by decide +kernel
theorem dX4_copyFrom_41 : decode cX4_copyFrom 41 = .ok (.aload_n 1, 1) := by decide +kernel
theorem dX4_copyFrom_42 : decode cX4_copyFrom 42 = .ok (.getfield 32, 3) := by decide +kernel
theorem dX4_copyFrom_45 : decode cX4_copyFrom 45 = .ok (.putfield 32, 3) := by decide +kernel
theorem dX4_copyFrom_48 : decode cX4_copyFrom 48 = .ok (.aload_n 1, 1) := by decide +kernel
theorem dX4_copyFrom_49 : decode cX4_copyFrom 49 = .ok (.getfield 9, 3) := by decide +kernel
theorem dX4_copyFrom_52 : decode cX4_copyFrom 52 = .ok (.iconst 0, 1) := by decide +kernel
theorem dX4_copyFrom_53 : decode cX4_copyFrom 53 = .ok (.aload_n 0, 1) := by decide +kernel
theorem dX4_copyFrom_54 : decode cX4_copyFrom 54 = .ok (.getfield 9, 3) := by decide +kernel
theorem dX4_copyFrom_57 : decode cX4_copyFrom 57 = .ok (.iconst 0, 1) := by decide +kernel
theorem dX4_copyFrom_58 : decode cX4_copyFrom 58 = .ok (.iconst 4, 1) := by decide +kernel
theorem dX4_copyFrom_59 : decode cX4_copyFrom 59 = .ok (.invokestatic 35, 3) := by decide +kernel
theorem dX4_copyFrom_62 : decode cX4_copyFrom 62 = .ok (.return_, 1) := by decide +kernel
theorem dX5_init_0 : decode cX5_init 0 = .ok (.aload_n 0, 1) := by decide +kernel
theorem dX5_init_1 : decode cX5_init 1 = .ok (.invokespecial 3, 3) := by decide +kernel
theorem dX5_init_4 : decode cX5_init 4 = .ok (.aload_n 0, 1) := by decide +kernel
theorem dX5_init_5 : decode cX5_init 5 = .ok (.bipush 100, 2) := by decide +kernel
theorem dX5_init_7 : decode cX5_init 7 = .ok (.newarray .byte, 2) := by decide +kernel
theorem dX5_init_9 : decode cX5_init 9 = .ok (.putfield 9, 3) := by decide +kernel
theorem dX5_init_12 : decode cX5_init 12 = .ok (.aload_n 0, 1) := by decide +kernel
theorem dX5_init_13 : decode cX5_init 13 = .ok (.new 15, 3) := by decide +kernel
theorem dX5_init_16 : decode cX5_init 16 = .ok (.dup, 1) := by decide +kernel
theorem dX5_init_17 : decode cX5_init 17 = .ok (.invokespecial 17, 3) := by decide +kernel
theorem dX5_init_20 : decode cX5_init 20 = .ok (.putfield 18, 3) := by decide +kernel
theorem dX5_init_23 : decode cX5_init 23 = .ok (.return_, 1) := by decide +kernel
theorem dX5_addSign_0 : decode cX5_addSign 0 = .ok (.aload_n 0, 1) := by decide +kernel
theorem dX5_addSign_1 : decode cX5_addSign 1 = .ok (.getfield 9, 3) := by decide +kernel
theorem dX5_addSign_4 : decode cX5_addSign 4 = .ok (.aload_n 0, 1) := by decide +kernel
theorem dX5_addSign_5 : decode cX5_addSign 5 = .ok (.getfield 22, 3) := by decide +kernel
theorem dX5_addSign_8 : decode cX5_addSign 8 = .ok (.iload_n 1, 1) := by decide +kernel
theorem dX5_addSign_9 : decode cX5_addSign 9 = .ok (.i2b, 1) := by decide +kernel
theorem dX5_addSign_10 : decode cX5_addSign 10 = .ok (.bastore, 1) := by decide +kernel
theorem dX5_addSign_11 : decode cX5_addSign 11 = .ok (.aload_n 0, 1) := by decide +kernel
theorem dX5_addSign_12 : decode cX5_addSign 12 = .ok (.dup, 1) := by decide +kernel
theorem dX5_addSign_13 : decode cX5_addSign 13 = .ok (.getfield 22, 3) := by decide +kernel
theorem dX5_addSign_16 : decode cX5_addSign 16 = .ok (.iconst 1, 1) := by decide +kernel
theorem dX5_addSign_17 : decode cX5_addSign 17 = .ok (.iadd, 1) := by decide +kernel
theorem dX5_addSign_18 : decode cX5_addSign 18 = .ok (.putfield 22, 3) := by decide +kernel
theorem dX5_addSign_21 : decode cX5_addSign 21 = .ok (.aload_n 0, 1) := by decide +kernel
theorem dX5_addSign_22 : decode cX5_addSign 22 = .ok (.getfield 22, 3) := by decide +kernel
theorem dX5_addSign_25 : decode cX5_addSign 25 = .ok (.ireturn, 1) := by decide +kernel
theorem dX5_readInto_0 : decode cX5_readInto 0 = .ok (.aload_n 0, 1) := by decide +kernel
theorem dX5_readInto_1 : decode cX5_readInto 1 = .ok (.aload_n 1, 1) := by decide +kernel
theorem dX5_readInto_2 : decode cX5_readInto 2 = .ok (.putfield 18, 3) := by decide +kernel
theorem dX5_readInto_5 : decode cX5_readInto 5 = .ok (.aload_n 0, 1) := by decide +kernel
theorem dX5_readInto_6 : decode cX5_readInto 6 = .ok (.getfield 18, 3) := by decide +kernel
theorem dX5_readInto_9 : decode cX5_readInto 9 = .ok (.invokevirtual 26, 3) := by decide +kernel
theorem dX5_readInto_12 : decode cX5_readInto 12 = .ok (.aload_n 0, 1) := by decide +kernel
theorem dX5_readInto_13 : decode cX5_readInto 13 = .ok (.iconst 0, 1) := by decide +kernel
theorem dX5_readInto_14 : decode cX5_readInto 14 = .ok (.putfield 29, 3) := by decide +kernel
theorem dX5_readInto_17 : decode cX5_readInto 17 = .ok (.iconst 1, 1) := by decide +kernel
theorem dX5_readInto_18 : decode cX5_readInto 18 = .ok (.istore_n 2, 1) := by decide +kernel
theorem dX5_readInto_19 : decode cX5_readInto 19 = .ok (.iload_n 2, 1) := by decide +kernel
theorem dX5_readInto_20 : decode cX5_readInto 20 = .ok (.bipush 10, 2) := by decide +kernel
theorem dX5_readInto_22 : decode cX5_readInto 22 = .ok (.if_icmp .gt 54, 3) := by decide +kernel
theorem dX5_readInto_25 : decode cX5_readInto 25 = .ok (.aload_n 0, 1) := by decide +kernel
theorem dX5_readInto_26 : decode cX5_readInto 26 = .ok (.invokevirtual 32, 3) := by decide +kernel
theorem dX5_readInto_29 : decode cX5_readInto 29 = .ok (.ifCond .ne 8, 3) := by decide +kernel
theorem dX5_readInto_32 : decode cX5_readInto 32 = .ok (.aload_n 0, 1) := by decide +kernel
theorem dX5_readInto_33 : decode cX5_readInto 33 = .ok (.getfield 29, 3) := by decide +kernel
theorem dX5_readInto_36 : decode cX5_readInto 36 = .ok (.ireturn, 1) := by decide +kernel
theorem dX5_readInto_37 : decode cX5_readInto 37 = .ok (.aload_n 0, 1) := by decide +kernel
theorem dX5_readInto_38 : decode cX5_readInto 38 = .ok (.getfield 29, 3) := by decide +kernel
theorem dX5_readInto_41 : decode cX5_readInto 41 = .ok (.aload_n 0, 1) := by decide +kernel
theorem dX5_readInto_42 : decode cX5_readInto 42 = .ok (.getfield 22, 3) := by decide +kernel
theorem dX5_readInto_45 : decode cX5_readInto 45 = .ok (.if_icmp .ne 5, 3) := by decide +kernel
theorem dX5_readInto_48 : decode cX5_readInto 48 = .ok (.iconst (-1), 1) := by decide +kernel
theorem dX5_readInto_49 : decode cX5_readInto 49 = .ok (.ireturn, 1) := by decide +kernel
theorem dX5_readInto_50 : decode cX5_readInto 50 = .ok (.iload_n 2, 1) := by decide +kernel
theorem dX5_readInto_51 : decode cX5_readInto 51 = .ok (.bipush 10, 2) := by decide +kernel
theorem dX5_readInto_53 : decode cX5_readInto 53 = .ok (.if_icmp .eq 12, 3) := by decide +kernel
theorem dX5_readInto_56 : decode cX5_readInto 56 = .ok (.aload_n 0, 1) := by decide +kernel
theorem dX5_readInto_57 : decode cX5_readInto 57 = .ok (.bipush 59, 2) := by decide +kernel
theorem dX5_readInto_59 : decode cX5_readInto 59 = .ok (.invokevirtual 36, 3) := by decide +kernel
theorem dX5_readInto_62 : decode cX5_readInto 62 = .ok (.ifCond .ne 8, 3) := by decide +kernel
theorem dX5_readInto_65 : decode cX5_readInto 65 = .ok (.aload_n 0, 1) := by decide +kernel
theorem dX5_readInto_66 : decode cX5_readInto 66 = .ok (.getfield 29, 3) := by decide +kernel
theorem dX5_readInto_69 : decode cX5_readInto 69 = .ok (.ireturn, 1) := by decide +kernel
theorem dX5_readInto_70 : decode cX5_readInto 70 = .ok (.iinc 2 1, 3) := by decide +kernel
theorem dX5_readInto_73 : decode cX5_readInto 73 = .ok (.goto (-54), 3) := by decide +kernel
theorem dX5_readInto_76 : decode cX5_readInto 76 = .ok (.aload_n 0, 1) := by decide +kernel
theorem dX5_readInto_77 : decode cX5_readInto 77 = .ok (.getfield 29, 3) := by decide +kernel
theorem dX5_readInto_80 : decode cX5_readInto 80 = .ok (.ireturn, 1) := by decide +kernel
theorem dX5_isNext_0 : decode cX5_isNext 0 = .ok (.aload_n 0, 1) := by decide +kernel
theorem dX5_isNext_1 : decode cX5_isNext 1 = .ok (.getfield 29, 3) := by decide +kernel
theorem dX5_isNext_4 : decode cX5_isNext 4 = .ok (.aload_n 0, 1) := by decide +kernel
theorem dX5_isNext_5 : decode cX5_isNext 5 = .ok (.getfield 22, 3) := by decide +kernel
theorem dX5_isNext_8 : decode cX5_isNext 8 = .ok (.if_icmp .ge 20, 3) := by decide +kernel
theorem dX5_isNext_11 : decode cX5_isNext 11 = .ok (.aload_n 0, 1) := by decide +kernel
theorem dX5_isNext_12 : decode cX5_isNext 12 = .ok (.getfield 9, 3) := by decide +kernel
theorem dX5_isNext_15 : decode cX5_isNext 15 = .ok (.aload_n 0, 1) := by decide +kernel
theorem dX5_isNext_16 : decode cX5_isNext 16 = .ok (.getfield 29, 3) := by decide +kernel
theorem dX5_isNext_19 : decode cX5_isNext 19 = .ok (.baload, 1) := by decide +kernel
theorem dX5_isNext_20 : decode cX5_isNext 20 = .ok (.iload_n 1, 1) := by decide +kernel
theorem dX5_isNext_21 : decode cX5_isNext 21 = .ok (.if_icmp .ne 7, 3) := by decide +kernel
theorem dX5_isNext_24 : decode cX5_isNext 24 = .ok (.iconst 1, 1) := by decide +kernel
theorem dX5_isNext_25 : decode cX5_isNext 25 = .ok (.goto 4, 3) := by decide +kernel
theorem dX5_isNext_28 : decode cX5_isNext 28 = .ok (.iconst 0, 1) := by decide +kernel
theorem dX5_isNext_29 : decode cX5_isNext 29 = .ok (.ireturn, 1) := by decide +kernel
theorem dX5_skip_0 : decode cX5_skip 0 = .ok (.aload_n 0, 1) := by decide +kernel
theorem dX5_skip_1 : decode cX5_skip 1 = .ok (.iload_n 1, 1) := by decide +kernel
theorem dX5_skip_2 : decode cX5_skip 2 = .ok (.invokevirtual 40, 3) := by decide +kernel
theorem dX5_skip_5 : decode cX5_skip 5 = .ok (.ifCond .ne 5, 3) := by decide +kernel
theorem dX5_skip_8 : decode cX5_skip 8 = .ok (.iconst 0, 1) := by decide +kernel
theorem dX5_skip_9 : decode cX5_skip 9 = .ok (.ireturn, 1) := by decide +kernel
theorem dX5_skip_10 : decode cX5_skip 10 = .ok (.aload_n 0, 1) := by decide +kernel
theorem dX5_skip_11 : decode cX5_skip 11 = .ok (.dup, 1) := by decide +kernel
theorem dX5_skip_12 : decode cX5_skip 12 = .ok (.getfield 29, 3) := by decide +kernel
theorem dX5_skip_15 : decode cX5_skip 15 = .ok (.iconst 1, 1) := by decide +kernel
theorem dX5_skip_16 : decode cX5_skip 16 = .ok (.iadd, 1) := by decide +kernel
theorem dX5_skip_17 : decode cX5_skip 17 = .ok (.putfield 29, 3) := by decide +kernel
theorem dX5_skip_20 : decode cX5_skip 20 = .ok (.iconst 1, 1) := by decide +kernel
theorem dX5_skip_21 : decode cX5_skip 21 = .ok (.ireturn, 1) := by decide +kernel
theorem dX5_readClause_0 : decode cX5_readClause 0 = .ok (.aload_n 0, 1) := by decide +kernel
theorem dX5_readClause_1 : decode cX5_readClause 1 = .ok (.bipush 107, 2) := by decide +kernel
theorem dX5_readClause_3 : decode cX5_readClause 3 = .ok (.invokevirtual 40, 3) := by decide +kernel
theorem dX5_readClause_6 : decode cX5_readClause 6 = .ok (.istore_n 1, 1) := by decide +kernel
theorem dX5_readClause_7 : decode cX5_readClause 7 = .ok (.aload_n 0, 1) := by decide +kernel
theorem dX5_readClause_8 : decode cX5_readClause 8 = .ok (.bipush 100, 2) := by decide +kernel
theorem dX5_readClause_10 : decode cX5_readClause 10 = .ok (.invokevirtual 40, 3) := by decide +kernel
theorem dX5_readClause_13 : decode cX5_readClause 13 = .ok (.istore_n 2, 1) := by decide +kernel
theorem dX5_readClause_14 : decode cX5_readClause 14 = .ok (.aload_n 0, 1) := by decide +kernel
theorem dX5_readClause_15 : decode cX5_readClause 15 = .ok (.bipush 98, 2) := by decide +kernel
theorem dX5_readClause_17 : decode cX5_readClause 17 = .ok (.invokevirtual 40, 3) := by decide +kernel
theorem dX5_readClause_20 : decode cX5_readClause 20 = .ok (.istore_n 3, 1) := by decide +kernel
theorem dX5_readClause_21 : decode cX5_readClause 21 = .ok (.aload_n 0, 1) := by decide +kernel
theorem dX5_readClause_22 : decode cX5_readClause 22 = .ok (.iload_n 1, 1) := by decide +kernel
theorem dX5_readClause_23 : decode cX5_readClause 23 = .ok (.ifCond .eq 8, 3) := by decide +kernel
theorem dX5_readClause_26 : decode cX5_readClause 26 = .ok (.ldc 43, 2) := by decide +kernel
theorem dX5_readClause_28 : decode cX5_readClause 28 = .ok (.goto 23, 3) := by decide +kernel
theorem dX5_readClause_31 : decode cX5_readClause 31 = .ok (.iload_n 2, 1) := by decide +kernel
theorem dX5_readClause_32 : decode cX5_readClause 32 = .ok (.ifCond .eq 8, 3) := by decide +kernel
theorem dX5_readClause_35 : decode cX5_readClause 35 = .ok (.ldc 45, 2) := by decide +kernel
theorem dX5_readClause_37 : decode cX5_readClause 37 = .ok (.goto 14, 3) := by decide +kernel
theorem dX5_readClause_40 : decode cX5_readClause 40 = .ok (.iload_n 3, 1) := by decide +kernel
theorem dX5_readClause_41 : decode cX5_readClause 41 = .ok (.ifCond .eq 8, 3) := by decide +kernel
theorem dX5_readClause_44 : decode cX5_readClause 44 = .ok (.ldc 47, 2) := by decide +kernel
theorem dX5_readClause_46 : decode cX5_readClause 46 = .ok (.goto 5, 3) := by decide +kernel
theorem dX5_readClause_49 : decode cX5_readClause 49 = .ok (.ldc 49, 2) := by decide +kernel
theorem dX5_readClause_51 : decode cX5_readClause 51 = .ok (.invokevirtual 51, 3) := by decide +kernel
theorem dX5_readClause_54 : decode cX5_readClause 54 = .ok (.ifCond .ne 5, 3) := by decide +kernel
theorem dX5_readClause_57 : decode cX5_readClause 57 = .ok (.iconst 0, 1) := by decide +kernel
theorem dX5_readClause_58 : decode cX5_readClause 58 = .ok (.ireturn, 1) := by decide +kernel
theorem dX5_readClause_59 : decode cX5_readClause 59 = .ok (.aload_n 0, 1) := by decide +kernel
theorem dX5_readClause_60 : decode cX5_readClause 60 = .ok (.invokevirtual 55, 3) := by decide +kernel
theorem dX5_readClause_63 : decode cX5_readClause 63 = .ok (.istore 4, 2) := by decide +kernel
theorem dX5_readClause_65 : decode cX5_readClause 65 = .ok (.iload 4, 2) := by decide +kernel
theorem dX5_readClause_67 : decode cX5_readClause 67 = .ok (.ifCond .ge 5, 3) := by decide +kernel
theorem dX5_readClause_70 : decode cX5_readClause 70 = .ok (.iconst 0, 1) := by decide +kernel
theorem dX5_readClause_71 : decode cX5_readClause 71 = .ok (.ireturn, 1) := by decide +kernel
theorem dX5_readClause_72 : decode cX5_readClause 72 = .ok (.iload_n 3, 1) := by decide +kernel
theorem dX5_readClause_73 : decode cX5_readClause 73 = .ok (.ifCond .eq 14, 3) := by decide +kernel
theorem dX5_readClause_76 : decode cX5_readClause 76 = .ok (.aload_n 0, 1) := by decide +kernel
theorem dX5_readClause_77 : decode cX5_readClause 77 = .ok (.getfield 18, 3) := by decide +kernel
theorem dX5_readClause_80 : decode cX5_readClause 80 = .ok (.iload 4, 2) := by decide +kernel
theorem dX5_readClause_82 : decode cX5_readClause 82 = .ok (.putfield 59, 3) := by decide +kernel
theorem dX5_readClause_85 : decode cX5_readClause 85 = .ok (.iconst 1, 1) := by decide +kernel
theorem dX5_readClause_86 : decode cX5_readClause 86 = .ok (.ireturn, 1) := by decide +kernel
theorem dX5_readClause_87 : decode cX5_readClause 87 = .ok (.iload_n 1, 1) := by decide +kernel
theorem dX5_readClause_88 : decode cX5_readClause 88 = .ok (.ifCond .ne 27, 3) := by decide +kernel
theorem dX5_readClause_91 : decode cX5_readClause 91 = .ok (.iload_n 2, 1) := by decide +kernel
theorem dX5_readClause_92 : decode cX5_readClause 92 = .ok (.ifCond .ne 23, 3) := by decide +kernel
theorem dX5_readClause_95 : decode cX5_readClause 95 = .ok (.aload_n 0, 1) := by decide +kernel
theorem dX5_readClause_96 : decode cX5_readClause 96 = .ok (.getfield 18, 3) := by decide +kernel
theorem dX5_readClause_99 : decode cX5_readClause 99 = .ok (.iconst 1, 1) := by decide +kernel
theorem dX5_readClause_100 : decode cX5_readClause 100 = .ok (.bipush 9, 2) := by decide +kernel
theorem dX5_readClause_102 : decode cX5_readClause 102 = .ok (.iload 4, 2) := by decide +kernel
theorem dX5_readClause_104 : decode cX5_readClause 104 = .ok (.invokestatic 62, 3) := by decide +kernel
theorem dX5_readClause_107 : decode cX5_readClause 107 = .ok (.invokestatic 68, 3) := by decide +kernel
theorem dX5_readClause_110 : decode cX5_readClause 110 = .ok (.putfield 71, 3) := by decide +kernel
theorem dX5_readClause_113 : decode cX5_readClause 113 = .ok (.iconst 1, 1) := by decide +kernel
theorem dX5_readClause_114 : decode cX5_readClause 114 = .ok (.ireturn, 1) := by decide +kernel
theorem dX5_readClause_115 : decode cX5_readClause 115 = .ok (.aload_n 0, 1) := by decide +kernel
theorem dX5_readClause_116 : decode cX5_readClause 116 = .ok (.bipush 32, 2) := by decide +kernel
theorem dX5_readClause_118 : decode cX5_readClause 118 = .ok (.invokevirtual 36, 3) := by decide +kernel
theorem dX5_readClause_121 : decode cX5_readClause 121 = .ok (.ifCond .eq 11, 3) := by decide +kernel
theorem dX5_readClause_124 : decode cX5_readClause 124 = .ok (.aload_n 0, 1) := by decide +kernel
theorem dX5_readClause_125 : decode cX5_readClause 125 = .ok (.iconst 0, 1) := by decide +kernel
theorem dX5_readClause_126 : decode cX5_readClause 126 = .ok (.invokevirtual 74, 3) := by decide +kernel
theorem dX5_readClause_129 : decode cX5_readClause 129 = .ok (.ifCond .ne 5, 3) := by decide +kernel
theorem dX5_readClause_132 : decode cX5_readClause 132 = .ok (.iconst 0, 1) := by decide +kernel
theorem dX5_readClause_133 : decode cX5_readClause 133 = .ok (.ireturn, 1) := by decide +kernel
theorem dX5_readClause_134 : decode cX5_readClause 134 = .ok (.aload_n 0, 1) := by decide +kernel
theorem dX5_readClause_135 : decode cX5_readClause 135 = .ok (.getfield 18, 3) := by decide +kernel
theorem dX5_readClause_138 : decode cX5_readClause 138 = .ok (.iload_n 1, 1) := by decide +kernel
theorem dX5_readClause_139 : decode cX5_readClause 139 = .ok (.ifCond .eq 9, 3) := by decide +kernel
theorem dX5_readClause_142 : decode cX5_readClause 142 = .ok (.sipush 2000, 3) := by decide +kernel
theorem dX5_readClause_145 : decode cX5_readClause 145 = .ok (.goto 6, 3) := by decide +kernel
theorem dX5_readClause_148 : decode cX5_readClause 148 = .ok (.sipush 3000, 3) := by decide +kernel
theorem dX5_readClause_151 : decode cX5_readClause 151 = .ok (.iload 4, 2) := by decide +kernel
theorem dX5_readClause_153 : decode cX5_readClause 153 = .ok (.iadd, 1) := by decide +kernel
theorem dX5_readClause_154 : decode cX5_readClause 154 = .ok (.invokevirtual 78, 3) := by decide +kernel
theorem dX5_readClause_157 : decode cX5_readClause 157 = .ok (.iconst 1, 1) := by decide +kernel
theorem dX5_readClause_158 : decode cX5_readClause 158 = .ok (.ireturn, 1) := by decide +kernel
theorem dX5_readWord_0 : decode cX5_readWord 0 = .ok (.iconst 0, 1) := by decide +kernel
theorem dX5_readWord_1 : decode cX5_readWord 1 = .ok (.istore_n 2, 1) := by decide +kernel
theorem dX5_readWord_2 : decode cX5_readWord 2 = .ok (.iload_n 2, 1) := by decide +kernel
theorem dX5_readWord_3 : decode cX5_readWord 3 = .ok (.aload_n 1, 1) := by decide +kernel
theorem dX5_readWord_4 : decode cX5_readWord 4 = .ok (.invokevirtual 82, 3) := by decide +kernel
theorem dX5_readWord_7 : decode cX5_readWord 7 = .ok (.if_icmp .ge 23, 3) := by decide +kernel
theorem dX5_readWord_10 : decode cX5_readWord 10 = .ok (.aload_n 0, 1) := by decide +kernel
theorem dX5_readWord_11 : decode cX5_readWord 11 = .ok (.aload_n 1, 1) := by decide +kernel
theorem dX5_readWord_12 : decode cX5_readWord 12 = .ok (.iload_n 2, 1) := by decide +kernel
theorem dX5_readWord_13 : decode cX5_readWord 13 = .ok (.invokevirtual 86, 3) := by decide +kernel
theorem dX5_readWord_16 : decode cX5_readWord 16 = .ok (.invokevirtual 36, 3) := by decide +kernel
theorem dX5_readWord_19 : decode cX5_readWord 19 = .ok (.ifCond .ne 5, 3) := by decide +kernel
theorem dX5_readWord_22 : decode cX5_readWord 22 = .ok (.iconst 0, 1) := by decide +kernel
theorem dX5_readWord_23 : decode cX5_readWord 23 = .ok (.ireturn, 1) := by decide +kernel
theorem dX5_readWord_24 : decode cX5_readWord 24 = .ok (.iinc 2 1, 3) := by decide +kernel
theorem dX5_readWord_27 : decode cX5_readWord 27 = .ok (.goto (-25), 3) := by decide +kernel
theorem dX5_readWord_30 : decode cX5_readWord 30 = .ok (.iconst 1, 1) := by decide +kernel
theorem dX5_readWord_31 : decode cX5_readWord 31 = .ok (.ireturn, 1) := by decide +kernel
theorem dX5_readNumber_0 : decode cX5_readNumber 0 = .ok (.iconst (-1), 1) := by decide +kernel
theorem dX5_readNumber_1 : decode cX5_readNumber 1 = .ok (.istore_n 1, 1) := by decide +kernel
theorem dX5_readNumber_2 : decode cX5_readNumber 2 = .ok (.iconst 0, 1) := by decide +kernel
theorem dX5_readNumber_3 : decode cX5_readNumber 3 = .ok (.istore_n 2, 1) := by decide +kernel
theorem dX5_readNumber_4 : decode cX5_readNumber 4 = .ok (.iload_n 2, 1) := by decide +kernel
theorem dX5_readNumber_5 : decode cX5_readNumber 5 = .ok (.iconst 2, 1) := by decide +kernel
theorem dX5_readNumber_6 : decode cX5_readNumber 6 = .ok (.if_icmp .ge 80, 3) := by decide +kernel
theorem dX5_readNumber_9 : decode cX5_readNumber 9 = .ok (.aload_n 0, 1) := by decide +kernel
theorem dX5_readNumber_10 : decode cX5_readNumber 10 = .ok (.getfield 29, 3) := by decide +kernel
theorem dX5_readNumber_13 : decode cX5_readNumber 13 = .ok (.aload_n 0, 1) := by decide +kernel
theorem dX5_readNumber_14 : decode cX5_readNumber 14 = .ok (.getfield 22, 3) := by decide +kernel
theorem dX5_readNumber_17 : decode cX5_readNumber 17 = .ok (.if_icmp .ge 69, 3) := by decide +kernel
theorem dX5_readNumber_20 : decode cX5_readNumber 20 = .ok (.aload_n 0, 1) := by decide +kernel
theorem dX5_readNumber_21 : decode cX5_readNumber 21 = .ok (.getfield 9, 3) := by decide +kernel
theorem dX5_readNumber_24 : decode cX5_readNumber 24 = .ok (.aload_n 0, 1) := by decide +kernel
theorem dX5_readNumber_25 : decode cX5_readNumber 25 = .ok (.getfield 29, 3) := by decide +kernel
theorem dX5_readNumber_28 : decode cX5_readNumber 28 = .ok (.baload, 1) := by decide +kernel
theorem dX5_readNumber_29 : decode cX5_readNumber 29 = .ok (.bipush 48, 2) := by decide +kernel
theorem dX5_readNumber_31 : decode cX5_readNumber 31 = .ok (.if_icmp .lt 55, 3) := by decide +kernel
theorem dX5_readNumber_34 : decode cX5_readNumber 34 = .ok (.aload_n 0, 1) := by decide +kernel
theorem dX5_readNumber_35 : decode cX5_readNumber 35 = .ok (.getfield 9, 3) := by decide +kernel
theorem dX5_readNumber_38 : decode cX5_readNumber 38 = .ok (.aload_n 0, 1) := by decide +kernel
theorem dX5_readNumber_39 : decode cX5_readNumber 39 = .ok (.getfield 29, 3) := by decide +kernel
theorem dX5_readNumber_42 : decode cX5_readNumber 42 = .ok (.baload, 1) := by decide +kernel
theorem dX5_readNumber_43 : decode cX5_readNumber 43 = .ok (.bipush 57, 2) := by decide +kernel
theorem dX5_readNumber_45 : decode cX5_readNumber 45 = .ok (.if_icmp .gt 41, 3) := by decide +kernel
theorem dX5_readNumber_48 : decode cX5_readNumber 48 = .ok (.iload_n 1, 1) := by decide +kernel
theorem dX5_readNumber_49 : decode cX5_readNumber 49 = .ok (.iconst 0, 1) := by decide +kernel
theorem dX5_readNumber_50 : decode cX5_readNumber 50 = .ok (.invokestatic 68, 3) := by decide +kernel
theorem dX5_readNumber_53 : decode cX5_readNumber 53 = .ok (.bipush 10, 2) := by decide +kernel
theorem dX5_readNumber_55 : decode cX5_readNumber 55 = .ok (.imul, 1) := by decide +kernel
theorem dX5_readNumber_56 : decode cX5_readNumber 56 = .ok (.aload_n 0, 1) := by decide +kernel
theorem dX5_readNumber_57 : decode cX5_readNumber 57 = .ok (.getfield 9, 3) := by decide +kernel
theorem dX5_readNumber_60 : decode cX5_readNumber 60 = .ok (.aload_n 0, 1) := by decide +kernel
theorem dX5_readNumber_61 : decode cX5_readNumber 61 = .ok (.getfield 29, 3) := by decide +kernel
theorem dX5_readNumber_64 : decode cX5_readNumber 64 = .ok (.baload, 1) := by decide +kernel
theorem dX5_readNumber_65 : decode cX5_readNumber 65 = .ok (.iadd, 1) := by decide +kernel
theorem dX5_readNumber_66 : decode cX5_readNumber 66 = .ok (.bipush 48, 2) := by decide +kernel
theorem dX5_readNumber_68 : decode cX5_readNumber 68 = .ok (.isub, 1) := by decide +kernel
theorem dX5_readNumber_69 : decode cX5_readNumber 69 = .ok (.istore_n 1, 1) := by decide +kernel
theorem dX5_readNumber_70 : decode cX5_readNumber 70 = .ok (.aload_n 0, 1) := by decide +kernel
theorem dX5_readNumber_71 : decode cX5_readNumber 71 = .ok (.dup, 1) := by decide +kernel
theorem dX5_readNumber_72 : decode cX5_readNumber 72 = .ok (.getfield 29, 3) := by decide +kernel
theorem dX5_readNumber_75 : decode cX5_readNumber 75 = .ok (.iconst 1, 1) := by decide +kernel
theorem dX5_readNumber_76 : decode cX5_readNumber 76 = .ok (.iadd, 1) := by decide +kernel
theorem dX5_readNumber_77 : decode cX5_readNumber 77 = .ok (.putfield 29, 3) := by decide +kernel
theorem dX5_readNumber_80 : decode cX5_readNumber 80 = .ok (.iinc 2 1, 3) := by decide +kernel
theorem dX5_readNumber_83 : decode cX5_readNumber 83 = .ok (.goto (-79), 3) := by decide +kernel
theorem dX5_readNumber_86 : decode cX5_readNumber 86 = .ok (.iload_n 1, 1) := by decide +kernel
theorem dX5_readNumber_87 : decode cX5_readNumber 87 = .ok (.ireturn, 1) := by decide +kernel
theorem dX5_readEither_0 : decode cX5_readEither 0 = .ok (.aload_n 0, 1) := by decide +kernel
theorem dX5_readEither_1 : decode cX5_readEither 1 = .ok (.iload_n 1, 1) := by decide +kernel
theorem dX5_readEither_2 : decode cX5_readEither 2 = .ok (.invokevirtual 90, 3) := by decide +kernel
theorem dX5_readEither_5 : decode cX5_readEither 5 = .ok (.ifCond .ne 5, 3) := by decide +kernel
theorem dX5_readEither_8 : decode cX5_readEither 8 = .ok (.iconst 0, 1) := by decide +kernel
theorem dX5_readEither_9 : decode cX5_readEither 9 = .ok (.ireturn, 1) := by decide +kernel
theorem dX5_readEither_10 : decode cX5_readEither 10 = .ok (.iconst 0, 1) := by decide +kernel
theorem dX5_readEither_11 : decode cX5_readEither 11 = .ok (.istore_n 2, 1) := by decide +kernel
theorem dX5_readEither_12 : decode cX5_readEither 12 = .ok (.iload_n 2, 1) := by decide +kernel
theorem dX5_readEither_13 : decode cX5_readEither 13 = .ok (.bipush 100, 2) := by decide +kernel
theorem dX5_readEither_15 : decode cX5_readEither 15 = .ok (.if_icmp .ge 37, 3) := by decide +kernel
theorem dX5_readEither_18 : decode cX5_readEither 18 = .ok (.aload_n 0, 1) := by decide +kernel
theorem dX5_readEither_19 : decode cX5_readEither 19 = .ok (.bipush 124, 2) := by decide +kernel
theorem dX5_readEither_21 : decode cX5_readEither 21 = .ok (.invokevirtual 36, 3) := by decide +kernel
theorem dX5_readEither_24 : decode cX5_readEither 24 = .ok (.ifCond .eq 28, 3) := by decide +kernel
theorem dX5_readEither_27 : decode cX5_readEither 27 = .ok (.aload_n 0, 1) := by decide +kernel
theorem dX5_readEither_28 : decode cX5_readEither 28 = .ok (.iload_n 1, 1) := by decide +kernel
theorem dX5_readEither_29 : decode cX5_readEither 29 = .ok (.invokevirtual 90, 3) := by decide +kernel
theorem dX5_readEither_32 : decode cX5_readEither 32 = .ok (.ifCond .ne 5, 3) := by decide +kernel
theorem dX5_readEither_35 : decode cX5_readEither 35 = .ok (.iconst 0, 1) := by decide +kernel
theorem dX5_readEither_36 : decode cX5_readEither 36 = .ok (.ireturn, 1) := by decide +kernel
theorem dX5_readEither_37 : decode cX5_readEither 37 = .ok (.aload_n 0, 1) := by decide +kernel
theorem dX5_readEither_38 : decode cX5_readEither 38 = .ok (.getfield 18, 3) := by decide +kernel
theorem dX5_readEither_41 : decode cX5_readEither 41 = .ok (.bipush (-3), 2) := by decide +kernel
theorem dX5_readEither_43 : decode cX5_readEither 43 = .ok (.invokevirtual 78, 3) := by decide +kernel
theorem dX5_readEither_46 : decode cX5_readEither 46 = .ok (.iinc 2 1, 3) := by decide +kernel
theorem dX5_readEither_49 : decode cX5_readEither 49 = .ok (.goto (-37), 3) := by decide +kernel
theorem dX5_readEither_52 : decode cX5_readEither 52 = .ok (.iconst 1, 1) := by decide +kernel
theorem dX5_readEither_53 : decode cX5_readEither 53 = .ok (.ireturn, 1) := by decide +kernel
theorem dX5_readBoth_0 : decode cX5_readBoth 0 = .ok (.aload_n 0, 1) := by decide +kernel
theorem dX5_readBoth_1 : decode cX5_readBoth 1 = .ok (.iload_n 1, 1) := by decide +kernel
theorem dX5_readBoth_2 : decode cX5_readBoth 2 = .ok (.invokevirtual 93, 3) := by decide +kernel
theorem dX5_readBoth_5 : decode cX5_readBoth 5 = .ok (.ifCond .ne 5, 3) := by decide +kernel
theorem dX5_readBoth_8 : decode cX5_readBoth 8 = .ok (.iconst 0, 1) := by decide +kernel
theorem dX5_readBoth_9 : decode cX5_readBoth 9 = .ok (.ireturn, 1) := by decide +kernel
theorem dX5_readBoth_10 : decode cX5_readBoth 10 = .ok (.iconst 0, 1) := by decide +kernel
theorem dX5_readBoth_11 : decode cX5_readBoth 11 = .ok (.istore_n 2, 1) := by decide +kernel
theorem dX5_readBoth_12 : decode cX5_readBoth 12 = .ok (.iload_n 2, 1) := by decide +kernel
theorem dX5_readBoth_13 : decode cX5_readBoth 13 = .ok (.bipush 100, 2) := by decide +kernel
theorem dX5_readBoth_15 : decode cX5_readBoth 15 = .ok (.if_icmp .ge 37, 3) := by decide +kernel
theorem dX5_readBoth_18 : decode cX5_readBoth 18 = .ok (.aload_n 0, 1) := by decide +kernel
theorem dX5_readBoth_19 : decode cX5_readBoth 19 = .ok (.bipush 38, 2) := by decide +kernel
theorem dX5_readBoth_21 : decode cX5_readBoth 21 = .ok (.invokevirtual 36, 3) := by decide +kernel
theorem dX5_readBoth_24 : decode cX5_readBoth 24 = .ok (.ifCond .eq 28, 3) := by decide +kernel
theorem dX5_readBoth_27 : decode cX5_readBoth 27 = .ok (.aload_n 0, 1) := by decide +kernel
theorem dX5_readBoth_28 : decode cX5_readBoth 28 = .ok (.iload_n 1, 1) := by decide +kernel
theorem dX5_readBoth_29 : decode cX5_readBoth 29 = .ok (.invokevirtual 93, 3) := by decide +kernel
theorem dX5_readBoth_32 : decode cX5_readBoth 32 = .ok (.ifCond .ne 5, 3) := by decide +kernel
theorem dX5_readBoth_35 : decode cX5_readBoth 35 = .ok (.iconst 0, 1) := by decide +kernel
theorem dX5_readBoth_36 : decode cX5_readBoth 36 = .ok (.ireturn, 1) := by decide +kernel
theorem dX5_readBoth_37 : decode cX5_readBoth 37 = .ok (.aload_n 0, 1) := by decide +kernel
theorem dX5_readBoth_38 : decode cX5_readBoth 38 = .ok (.getfield 18, 3) := by decide +kernel
theorem dX5_readBoth_41 : decode cX5_readBoth 41 = .ok (.bipush (-2), 2) := by decide +kernel
theorem dX5_readBoth_43 : decode cX5_readBoth 43 = .ok (.invokevirtual 78, 3) := by decide +kernel
theorem dX5_readBoth_46 : decode cX5_readBoth 46 = .ok (.iinc 2 1, 3) := by decide +kernel
theorem dX5_readBoth_49 : decode cX5_readBoth 49 = .ok (.goto (-37), 3) := by decide +kernel
theorem dX5_readBoth_52 : decode cX5_readBoth 52 = .ok (.iconst 1, 1) := by decide +kernel
theorem dX5_readBoth_53 : decode cX5_readBoth 53 = .ok (.ireturn, 1) := by decide +kernel
theorem dX5_readPart_0 : decode cX5_readPart 0 = .ok (.aload_n 0, 1) := by decide +kernel
theorem dX5_readPart_1 : decode cX5_readPart 1 = .ok (.bipush 33, 2) := by decide +kernel
theorem dX5_readPart_3 : decode cX5_readPart 3 = .ok (.invokevirtual 40, 3) := by decide +kernel
theorem dX5_readPart_6 : decode cX5_readPart 6 = .ok (.istore_n 2, 1) := by decide +kernel
theorem dX5_readPart_7 : decode cX5_readPart 7 = .ok (.iload_n 2, 1) := by decide +kernel
theorem dX5_readPart_8 : decode cX5_readPart 8 = .ok (.ifCond .ne 17, 3) := by decide +kernel
theorem dX5_readPart_11 : decode cX5_readPart 11 = .ok (.aload_n 0, 1) := by decide +kernel
theorem dX5_readPart_12 : decode cX5_readPart 12 = .ok (.bipush 40, 2) := by decide +kernel
theorem dX5_readPart_14 : decode cX5_readPart 14 = .ok (.invokevirtual 40, 3) := by decide +kernel
theorem dX5_readPart_17 : decode cX5_readPart 17 = .ok (.ifCond .ne 8, 3) := by decide +kernel
theorem dX5_readPart_20 : decode cX5_readPart 20 = .ok (.aload_n 0, 1) := by decide +kernel
theorem dX5_readPart_21 : decode cX5_readPart 21 = .ok (.invokevirtual 96, 3) := by decide +kernel
theorem dX5_readPart_24 : decode cX5_readPart 24 = .ok (.ireturn, 1) := by decide +kernel
theorem dX5_readPart_25 : decode cX5_readPart 25 = .ok (.iload_n 1, 1) := by decide +kernel
theorem dX5_readPart_26 : decode cX5_readPart 26 = .ok (.iconst 4, 1) := by decide +kernel
theorem dX5_readPart_27 : decode cX5_readPart 27 = .ok (.if_icmp .lt 5, 3) := by decide +kernel
theorem dX5_readPart_30 : decode cX5_readPart 30 = .ok (.iconst 0, 1) := by decide +kernel
theorem dX5_readPart_31 : decode cX5_readPart 31 = .ok (.ireturn, 1) := by decide +kernel
theorem dX5_readPart_32 : decode cX5_readPart 32 = .ok (.aload_n 0, 1) := by decide +kernel
theorem dX5_readPart_33 : decode cX5_readPart 33 = .ok (.dup, 1) := by decide +kernel
theorem dX5_readPart_34 : decode cX5_readPart 34 = .ok (.getfield 29, 3) := by decide +kernel
theorem dX5_readPart_37 : decode cX5_readPart 37 = .ok (.iconst 1, 1) := by decide +kernel
theorem dX5_readPart_38 : decode cX5_readPart 38 = .ok (.iadd, 1) := by decide +kernel
theorem dX5_readPart_39 : decode cX5_readPart 39 = .ok (.putfield 29, 3) := by decide +kernel
theorem dX5_readPart_42 : decode cX5_readPart 42 = .ok (.iload_n 2, 1) := by decide +kernel
theorem dX5_readPart_43 : decode cX5_readPart 43 = .ok (.ifCond .eq 13, 3) := by decide +kernel
theorem dX5_readPart_46 : decode cX5_readPart 46 = .ok (.aload_n 0, 1) := by decide +kernel
theorem dX5_readPart_47 : decode cX5_readPart 47 = .ok (.iload_n 1, 1) := by decide +kernel
theorem dX5_readPart_48 : decode cX5_readPart 48 = .ok (.iconst 1, 1) := by decide +kernel
theorem dX5_readPart_49 : decode cX5_readPart 49 = .ok (.iadd, 1) := by decide +kernel
theorem dX5_readPart_50 : decode cX5_readPart 50 = .ok (.invokevirtual 99, 3) := by decide +kernel
theorem dX5_readPart_53 : decode cX5_readPart 53 = .ok (.goto 27, 3) := by decide +kernel
theorem dX5_readPart_56 : decode cX5_readPart 56 = .ok (.aload_n 0, 1) := by decide +kernel
theorem dX5_readPart_57 : decode cX5_readPart 57 = .ok (.iload_n 1, 1) := by decide +kernel
theorem dX5_readPart_58 : decode cX5_readPart 58 = .ok (.iconst 1, 1) := by decide +kernel
theorem dX5_readPart_59 : decode cX5_readPart 59 = .ok (.iadd, 1) := by decide +kernel
theorem dX5_readPart_60 : decode cX5_readPart 60 = .ok (.invokevirtual 74, 3) := by decide +kernel
theorem dX5_readPart_63 : decode cX5_readPart 63 = .ok (.ifCond .eq 16, 3) := by decide +kernel
theorem dX5_readPart_66 : decode cX5_readPart 66 = .ok (.aload_n 0, 1) := by decide +kernel
theorem dX5_readPart_67 : decode cX5_readPart 67 = .ok (.bipush 41, 2) := by decide +kernel
theorem dX5_readPart_69 : decode cX5_readPart 69 = .ok (.invokevirtual 36, 3) := by decide +kernel
theorem dX5_readPart_72 : decode cX5_readPart 72 = .ok (.ifCond .eq 7, 3) := by decide +kernel
theorem dX5_readPart_75 : decode cX5_readPart 75 = .ok (.iconst 1, 1) := by decide +kernel
theorem dX5_readPart_76 : decode cX5_readPart 76 = .ok (.goto 4, 3) := by decide +kernel
theorem dX5_readPart_79 : decode cX5_readPart 79 = .ok (.iconst 0, 1) := by decide +kernel
theorem dX5_readPart_80 : decode cX5_readPart 80 = .ok (.ireturn, 1) := by decide +kernel
theorem dX5_readBehindNot_0 : decode cX5_readBehindNot 0 = .ok (.aload_n 0, 1) := by decide +kernel
theorem dX5_readBehindNot_1 : decode cX5_readBehindNot 1 = .ok (.iload_n 1, 1) := by decide +kernel
theorem dX5_readBehindNot_2 : decode cX5_readBehindNot 2 = .ok (.invokevirtual 93, 3) := by decide +kernel
theorem dX5_readBehindNot_5 : decode cX5_readBehindNot 5 = .ok (.ifCond .ne 5, 3) := by decide +kernel
theorem dX5_readBehindNot_8 : decode cX5_readBehindNot 8 = .ok (.iconst 0, 1) := by decide +kernel
theorem dX5_readBehindNot_9 : decode cX5_readBehindNot 9 = .ok (.ireturn, 1) := by decide +kernel
theorem dX5_readBehindNot_10 : decode cX5_readBehindNot 10 = .ok (.aload_n 0, 1) := by decide +kernel
theorem dX5_readBehindNot_11 : decode cX5_readBehindNot 11 = .ok (.getfield 18, 3) := by decide +kernel
theorem dX5_readBehindNot_14 : decode cX5_readBehindNot 14 = .ok (.iconst (-1), 1) := by decide +kernel
theorem dX5_readBehindNot_15 : decode cX5_readBehindNot 15 = .ok (.invokevirtual 78, 3) := by decide +kernel
theorem dX5_readBehindNot_18 : decode cX5_readBehindNot 18 = .ok (.iconst 1, 1) := by decide +kernel
theorem dX5_readBehindNot_19 : decode cX5_readBehindNot 19 = .ok (.ireturn, 1) := by decide +kernel
theorem dX5_readTest_0 : decode cX5_readTest 0 = .ok (.aload_n 0, 1) := by decide +kernel
theorem dX5_readTest_1 : decode cX5_readTest 1 = .ok (.ldc 102, 2) := by decide +kernel
theorem dX5_readTest_3 : decode cX5_readTest 3 = .ok (.invokevirtual 104, 3) := by decide +kernel
theorem dX5_readTest_6 : decode cX5_readTest 6 = .ok (.istore_n 1, 1) := by decide +kernel
theorem dX5_readTest_7 : decode cX5_readTest 7 = .ok (.iload_n 1, 1) := by decide +kernel
theorem dX5_readTest_8 : decode cX5_readTest 8 = .ok (.ifCond .ge 5, 3) := by decide +kernel
theorem dX5_readTest_11 : decode cX5_readTest 11 = .ok (.iconst 0, 1) := by decide +kernel
theorem dX5_readTest_12 : decode cX5_readTest 12 = .ok (.ireturn, 1) := by decide +kernel
theorem dX5_readTest_13 : decode cX5_readTest 13 = .ok (.aload_n 0, 1) := by decide +kernel
theorem dX5_readTest_14 : decode cX5_readTest 14 = .ok (.ldc 108, 2) := by decide +kernel
theorem dX5_readTest_16 : decode cX5_readTest 16 = .ok (.invokevirtual 104, 3) := by decide +kernel
theorem dX5_readTest_19 : decode cX5_readTest 19 = .ok (.istore_n 2, 1) := by decide +kernel
theorem dX5_readTest_20 : decode cX5_readTest 20 = .ok (.iload_n 2, 1) := by decide +kernel
theorem dX5_readTest_21 : decode cX5_readTest 21 = .ok (.ifCond .ge 5, 3) := by decide +kernel
theorem dX5_readTest_24 : decode cX5_readTest 24 = .ok (.iconst 0, 1) := by decide +kernel
theorem dX5_readTest_25 : decode cX5_readTest 25 = .ok (.ireturn, 1) := by decide +kernel
theorem dX5_readTest_26 : decode cX5_readTest 26 = .ok (.aload_n 0, 1) := by decide +kernel
theorem dX5_readTest_27 : decode cX5_readTest 27 = .ok (.invokevirtual 55, 3) := by decide +kernel
theorem dX5_readTest_30 : decode cX5_readTest 30 = .ok (.istore_n 3, 1) := by decide +kernel
theorem dX5_readTest_31 : decode cX5_readTest 31 = .ok (.iload_n 3, 1) := by decide +kernel
theorem dX5_readTest_32 : decode cX5_readTest 32 = .ok (.ifCond .ge 5, 3) := by decide +kernel
theorem dX5_readTest_35 : decode cX5_readTest 35 = .ok (.iconst 0, 1) := by decide +kernel
theorem dX5_readTest_36 : decode cX5_readTest 36 = .ok (.ireturn, 1) := by decide +kernel
theorem dX5_readTest_37 : decode cX5_readTest 37 = .ok (.aload_n 0, 1) := by decide +kernel
theorem dX5_readTest_38 : decode cX5_readTest 38 = .ok (.getfield 18, 3) := by decide +kernel
theorem dX5_readTest_41 : decode cX5_readTest 41 = .ok (.iload_n 1, 1) := by decide +kernel
theorem dX5_readTest_42 : decode cX5_readTest 42 = .ok (.sipush 300, 3) := by decide +kernel
theorem dX5_readTest_45 : decode cX5_readTest 45 = .ok (.imul, 1) := by decide +kernel
theorem dX5_readTest_46 : decode cX5_readTest 46 = .ok (.iload_n 2, 1) := by decide +kernel
theorem dX5_readTest_47 : decode cX5_readTest 47 = .ok (.bipush 100, 2) := by decide +kernel
theorem dX5_readTest_49 : decode cX5_readTest 49 = .ok (.imul, 1) := by decide +kernel
theorem dX5_readTest_50 : decode cX5_readTest 50 = .ok (.iadd, 1) := by decide +kernel
theorem dX5_readTest_51 : decode cX5_readTest 51 = .ok (.iload_n 3, 1) := by decide +kernel
theorem dX5_readTest_52 : decode cX5_readTest 52 = .ok (.iadd, 1) := by decide +kernel
theorem dX5_readTest_53 : decode cX5_readTest 53 = .ok (.invokevirtual 78, 3) := by decide +kernel
theorem dX5_readTest_56 : decode cX5_readTest 56 = .ok (.iconst 1, 1) := by decide +kernel
theorem dX5_readTest_57 : decode cX5_readTest 57 = .ok (.ireturn, 1) := by decide +kernel
theorem dX5_readOneOf_0 : decode cX5_readOneOf 0 = .ok (.aload_n 0, 1) := by decide +kernel
theorem dX5_readOneOf_1 : decode cX5_readOneOf 1 = .ok (.getfield 29, 3) := by decide +kernel
theorem dX5_readOneOf_4 : decode cX5_readOneOf 4 = .ok (.aload_n 0, 1) := by decide +kernel
theorem dX5_readOneOf_5 : decode cX5_readOneOf 5 = .ok (.getfield 22, 3) := by decide +kernel
theorem dX5_readOneOf_8 : decode cX5_readOneOf 8 = .ok (.if_icmp .ge 20, 3) := by decide +kernel
theorem dX5_readOneOf_11 : decode cX5_readOneOf 11 = .ok (.aload_n 1, 1) := by decide +kernel
theorem dX5_readOneOf_12 : decode cX5_readOneOf 12 = .ok (.aload_n 0, 1) := by decide +kernel
theorem dX5_readOneOf_13 : decode cX5_readOneOf 13 = .ok (.getfield 9, 3) := by decide +kernel
theorem dX5_readOneOf_16 : decode cX5_readOneOf 16 = .ok (.aload_n 0, 1) := by decide +kernel
theorem dX5_readOneOf_17 : decode cX5_readOneOf 17 = .ok (.getfield 29, 3) := by decide +kernel
theorem dX5_readOneOf_20 : decode cX5_readOneOf 20 = .ok (.baload, 1) := by decide +kernel
theorem dX5_readOneOf_21 : decode cX5_readOneOf 21 = .ok (.i2c, 1) := by decide +kernel
theorem dX5_readOneOf_22 : decode cX5_readOneOf 22 = .ok (.invokevirtual 110, 3) := by decide +kernel
theorem dX5_readOneOf_25 : decode cX5_readOneOf 25 = .ok (.goto 4, 3) := by decide +kernel
theorem dX5_readOneOf_28 : decode cX5_readOneOf 28 = .ok (.iconst (-1), 1) := by decide +kernel
theorem dX5_readOneOf_29 : decode cX5_readOneOf 29 = .ok (.istore_n 2, 1) := by decide +kernel
theorem dX5_readOneOf_30 : decode cX5_readOneOf 30 = .ok (.iload_n 2, 1) := by decide +kernel
theorem dX5_readOneOf_31 : decode cX5_readOneOf 31 = .ok (.ifCond .lt 13, 3) := by decide +kernel
theorem dX5_readOneOf_34 : decode cX5_readOneOf 34 = .ok (.aload_n 0, 1) := by decide +kernel
theorem dX5_readOneOf_35 : decode cX5_readOneOf 35 = .ok (.dup, 1) := by decide +kernel
theorem dX5_readOneOf_36 : decode cX5_readOneOf 36 = .ok (.getfield 29, 3) := by decide +kernel
theorem dX5_readOneOf_39 : decode cX5_readOneOf 39 = .ok (.iconst 1, 1) := by decide +kernel
theorem dX5_readOneOf_40 : decode cX5_readOneOf 40 = .ok (.iadd, 1) := by decide +kernel
theorem dX5_readOneOf_41 : decode cX5_readOneOf 41 = .ok (.putfield 29, 3) := by decide +kernel
theorem dX5_readOneOf_44 : decode cX5_readOneOf 44 = .ok (.iload_n 2, 1) := by decide +kernel
theorem dX5_readOneOf_45 : decode cX5_readOneOf 45 = .ok (.ireturn, 1) := by decide +kernel
theorem dX6_init_0 : decode cX6_init 0 = .ok (.aload_n 0, 1) := by decide +kernel
theorem dX6_init_1 : decode cX6_init 1 = .ok (.invokespecial 1, 3) := by decide +kernel
theorem dX6_init_4 : decode cX6_init 4 = .ok (.aload_n 0, 1) := by decide +kernel
theorem dX6_init_5 : decode cX6_init 5 = .ok (.iload_n 1, 1) := by decide +kernel
theorem dX6_init_6 : decode cX6_init 6 = .ok (.newarray .int, 2) := by decide +kernel
theorem dX6_init_8 : decode cX6_init 8 = .ok (.putfield 7, 3) := by decide +kernel
theorem dX6_init_11 : decode cX6_init 11 = .ok (.aload_n 0, 1) := by decide +kernel
theorem dX6_init_12 : decode cX6_init 12 = .ok (.iload_n 1, 1) := by decide +kernel
theorem dX6_init_13 : decode cX6_init 13 = .ok (.newarray .int, 2) := by decide +kernel
theorem dX6_init_15 : decode cX6_init 15 = .ok (.putfield 13, 3) := by decide +kernel
theorem dX6_init_18 : decode cX6_init 18 = .ok (.aload_n 0, 1) := by decide +kernel
theorem dX6_init_19 : decode cX6_init 19 = .ok (.iload_n 1, 1) := by decide +kernel
theorem dX6_init_20 : decode cX6_init 20 = .ok (.newarray .int, 2) := by decide +kernel
theorem dX6_init_22 : decode cX6_init 22 = .ok (.putfield 16, 3) := by decide +kernel
theorem dX6_init_25 : decode cX6_init 25 = .ok (.return_, 1) := by decide +kernel
theorem dX6_isFull_0 : decode cX6_isFull 0 = .ok (.aload_n 0, 1) := by decide +kernel
theorem dX6_isFull_1 : decode cX6_isFull 1 = .ok (.getfield 19, 3) := by decide +kernel
theorem dX6_isFull_4 : decode cX6_isFull 4 = .ok (.aload_n 0, 1) := by decide +kernel
theorem dX6_isFull_5 : decode cX6_isFull 5 = .ok (.getfield 7, 3) := by decide +kernel
theorem dX6_isFull_8 : decode cX6_isFull 8 = .ok (.arraylength, 1) := by decide +kernel
theorem dX6_isFull_9 : decode cX6_isFull 9 = .ok (.if_icmp .lt 7, 3) := by decide +kernel
theorem dX6_isFull_12 : decode cX6_isFull 12 = .ok (.iconst 1, 1) := by decide +kernel
theorem dX6_isFull_13 : decode cX6_isFull 13 = .ok (.goto 4, 3) := by decide +kernel
theorem dX6_isFull_16 : decode cX6_isFull 16 = .ok (.iconst 0, 1) := by decide +kernel
theorem dX6_isFull_17 : decode cX6_isFull 17 = .ok (.ireturn, 1) := by decide +kernel
theorem dX6_addRow_0 : decode cX6_addRow 0 = .ok (.aload_n 0, 1) := by decide +kernel
theorem dX6_addRow_1 : decode cX6_addRow 1 = .ok (.getfield 7, 3) := by decide +kernel
theorem dX6_addRow_4 : decode cX6_addRow 4 = .ok (.aload_n 0, 1) := by decide +kernel
theorem dX6_addRow_5 : decode cX6_addRow 5 = .ok (.getfield 19, 3) := by decide +kernel
theorem dX6_addRow_8 : decode cX6_addRow 8 = .ok (.iload_n 1, 1) := by decide +kernel
theorem dX6_addRow_9 : decode cX6_addRow 9 = .ok (.iastore, 1) := by decide +kernel
theorem dX6_addRow_10 : decode cX6_addRow 10 = .ok (.aload_n 0, 1) := by decide +kernel
theorem dX6_addRow_11 : decode cX6_addRow 11 = .ok (.getfield 13, 3) := by decide +kernel
theorem dX6_addRow_14 : decode cX6_addRow 14 = .ok (.aload_n 0, 1) := by decide +kernel
theorem dX6_addRow_15 : decode cX6_addRow 15 = .ok (.getfield 19, 3) := by decide +kernel
theorem dX6_addRow_18 : decode cX6_addRow 18 = .ok (.iload_n 2, 1) := by decide +kernel
theorem dX6_addRow_19 : decode cX6_addRow 19 = .ok (.iastore, 1) := by decide +kernel
theorem dX6_addRow_20 : decode cX6_addRow 20 = .ok (.aload_n 0, 1) := by decide +kernel
theorem dX6_addRow_21 : decode cX6_addRow 21 = .ok (.getfield 16, 3) := by decide +kernel
theorem dX6_addRow_24 : decode cX6_addRow 24 = .ok (.aload_n 0, 1) := by decide +kernel
theorem dX6_addRow_25 : decode cX6_addRow 25 = .ok (.getfield 19, 3) := by decide +kernel
theorem dX6_addRow_28 : decode cX6_addRow 28 = .ok (.iload_n 3, 1) := by decide +kernel
theorem dX6_addRow_29 : decode cX6_addRow 29 = .ok (.iastore, 1) := by decide +kernel
theorem dX6_addRow_30 : decode cX6_addRow 30 = .ok (.aload_n 0, 1) := by decide +kernel
theorem dX6_addRow_31 : decode cX6_addRow 31 = .ok (.dup, 1) := by decide +kernel
theorem dX6_addRow_32 : decode cX6_addRow 32 = .ok (.getfield 19, 3) := by decide +kernel
theorem dX6_addRow_35 : decode cX6_addRow 35 = .ok (.iconst 1, 1) := by decide +kernel
theorem dX6_addRow_36 : decode cX6_addRow 36 = .ok (.iadd, 1) := by decide +kernel
theorem dX6_addRow_37 : decode cX6_addRow 37 = .ok (.putfield 19, 3) := by decide +kernel
theorem dX6_addRow_40 : decode cX6_addRow 40 = .ok (.aload_n 0, 1) := by decide +kernel
theorem dX6_addRow_41 : decode cX6_addRow 41 = .ok (.getfield 19, 3) := by decide +kernel
theorem dX6_addRow_44 : decode cX6_addRow 44 = .ok (.ireturn, 1) := by decide +kernel
theorem dX6_copyFrom_0 : decode cX6_copyFrom 0 = .ok (.aload_n 0, 1) := by decide +kernel
theorem dX6_copyFrom_1 : decode cX6_copyFrom 1 = .ok (.aload_n 1, 1) := by decide +kernel
theorem dX6_copyFrom_2 : decode cX6_copyFrom 2 = .ok (.getfield 19, 3) := by decide +kernel
theorem dX6_copyFrom_5 : decode cX6_copyFrom 5 = .ok (.aload_n 0, 1) := by decide +kernel
theorem dX6_copyFrom_6 : decode cX6_copyFrom 6 = .ok (.getfield 7, 3) := by decide +kernel
theorem dX6_copyFrom_9 : decode cX6_copyFrom 9 = .ok (.arraylength, 1) := by decide +kernel
theorem dX6_copyFrom_10 : decode cX6_copyFrom 10 = .ok (.invokestatic 23, 3) := by decide +kernel
theorem dX6_copyFrom_13 : decode cX6_copyFrom 13 = .ok (.putfield 19, 3) := by decide +kernel
theorem dX6_copyFrom_16 : decode cX6_copyFrom 16 = .ok (.aload_n 1, 1) := by decide +kernel
theorem dX6_copyFrom_17 : decode cX6_copyFrom 17 = .ok (.getfield 7, 3) := by decide +kernel
theorem dX6_copyFrom_20 : decode cX6_copyFrom 20 = .ok (.iconst 0, 1) := by decide +kernel
theorem dX6_copyFrom_21 : decode cX6_copyFrom 21 = .ok (.aload_n 0, 1) := by decide +kernel
theorem dX6_copyFrom_22 : decode cX6_copyFrom 22 = .ok (.getfield 7, 3) := by decide +kernel
theorem dX6_copyFrom_25 : decode cX6_copyFrom 25 = .ok (.iconst 0, 1) := by decide +kernel
theorem dX6_copyFrom_26 : decode cX6_copyFrom 26 = .ok (.aload_n 0, 1) := by decide +kernel
theorem dX6_copyFrom_27 : decode cX6_copyFrom 27 = .ok (.getfield 19, 3) := by decide +kernel
theorem dX6_copyFrom_30 : decode cX6_copyFrom 30 = .ok (.invokestatic 29, 3) := by decide +kernel
theorem dX6_copyFrom_33 : decode cX6_copyFrom 33 = .ok (.aload_n 1, 1) := by decide +kernel
theorem dX6_copyFrom_34 : decode cX6_copyFrom 34 = .ok (.getfield 13, 3) := by decide +kernel
theorem dX6_copyFrom_37 : decode cX6_copyFrom 37 = .ok (.iconst 0, 1) := by decide +kernel
theorem dX6_copyFrom_38 : decode cX6_copyFrom 38 = .ok (.aload_n 0, 1) := by decide +kernel
theorem dX6_copyFrom_39 : decode cX6_copyFrom 39 = .ok (.getfield 13, 3) := by decide +kernel
theorem dX6_copyFrom_42 : decode cX6_copyFrom 42 = .ok (.iconst 0, 1) := by decide +kernel
theorem dX6_copyFrom_43 : decode cX6_copyFrom 43 = .ok (.aload_n 0, 1) := by decide +kernel
theorem dX6_copyFrom_44 : decode cX6_copyFrom 44 = .ok (.getfield 19, 3) := by decide +kernel
theorem dX6_copyFrom_47 : decode cX6_copyFrom 47 = .ok (.invokestatic 29, 3) := by decide +kernel
theorem dX6_copyFrom_50 : decode cX6_copyFrom 50 = .ok (.aload_n 1, 1) := by decide +kernel
theorem dX6_copyFrom_51 : decode cX6_copyFrom 51 = .ok (.getfield 16, 3) := by decide +kernel
theorem dX6_copyFrom_54 : decode cX6_copyFrom 54 = .ok (.iconst 0, 1) := by decide +kernel
theorem dX6_copyFrom_55 : decode cX6_copyFrom 55 = .ok (.aload_n 0, 1) := by decide +kernel
theorem dX6_copyFrom_56 : decode cX6_copyFrom 56 = .ok (.getfield 16, 3) := by decide +kernel
theorem dX6_copyFrom_59 : decode cX6_copyFrom 59 = .ok (.iconst 0, 1) := by decide +kernel
theorem dX6_copyFrom_60 : decode cX6_copyFrom 60 = .ok (.aload_n 0, 1) := by decide +kernel
theorem dX6_copyFrom_61 : decode cX6_copyFrom 61 = .ok (.getfield 19, 3) := by decide +kernel
theorem dX6_copyFrom_64 : decode cX6_copyFrom 64 = .ok (.invokestatic 29, 3) := by decide +kernel
theorem dX6_copyFrom_67 : decode cX6_copyFrom 67 = .ok (.return_, 1) := by decide +kernel
theorem dX7_init_0 : decode cX7_init 0 = .ok (.aload_n 0, 1) := by decide +kernel
theorem dX7_init_1 : decode cX7_init 1 = .ok (.invokespecial 3, 3) := by decide +kernel
theorem dX7_init_4 : decode cX7_init 4 = .ok (.aload_n 0, 1) := by decide +kernel
theorem dX7_init_5 : decode cX7_init 5 = .ok (.bipush 60, 2) := by decide +kernel
theorem dX7_init_7 : decode cX7_init 7 = .ok (.newarray .long, 2) := by decide +kernel
theorem dX7_init_9 : decode cX7_init 9 = .ok (.putfield 9, 3) := by decide +kernel
theorem dX7_init_12 : decode cX7_init 12 = .ok (.aload_n 0, 1) := by decide +kernel
theorem dX7_init_13 : decode cX7_init 13 = .ok (.iconst (-1), 1) := by decide +kernel
theorem dX7_init_14 : decode cX7_init 14 = .ok (.putfield 15, 3) := by decide +kernel
theorem dX7_init_17 : decode cX7_init 17 = .ok (.return_, 1) := by decide +kernel
theorem dX7_become_0 : decode cX7_become 0 = .ok (.aload_n 0, 1) := by decide +kernel
theorem dX7_become_1 : decode cX7_become 1 = .ok (.iload_n 1, 1) := by decide +kernel
theorem dX7_become_2 : decode cX7_become 2 = .ok (.putfield 15, 3) := by decide +kernel
theorem dX7_become_5 : decode cX7_become 5 = .ok (.aload_n 0, 1) := by decide +kernel
theorem dX7_become_6 : decode cX7_become 6 = .ok (.iload_n 2, 1) := by decide +kernel
theorem dX7_become_7 : decode cX7_become 7 = .ok (.putfield 19, 3) := by decide +kernel
theorem dX7_become_10 : decode cX7_become 10 = .ok (.iconst 0, 1) := by decide +kernel
theorem dX7_become_11 : decode cX7_become 11 = .ok (.istore_n 3, 1) := by decide +kernel
theorem dX7_become_12 : decode cX7_become 12 = .ok (.iload_n 3, 1) := by decide +kernel
theorem dX7_become_13 : decode cX7_become 13 = .ok (.bipush 60, 2) := by decide +kernel
theorem dX7_become_15 : decode cX7_become 15 = .ok (.if_icmp .ge 16, 3) := by decide +kernel
theorem dX7_become_18 : decode cX7_become 18 = .ok (.aload_n 0, 1) := by decide +kernel
theorem dX7_become_19 : decode cX7_become 19 = .ok (.getfield 9, 3) := by decide +kernel
theorem dX7_become_22 : decode cX7_become 22 = .ok (.iload_n 3, 1) := by decide +kernel
theorem dX7_become_23 : decode cX7_become 23 = .ok (.lconst 0, 1) := by decide +kernel
theorem dX7_become_24 : decode cX7_become 24 = .ok (.lastore, 1) := by decide +kernel
theorem dX7_become_25 : decode cX7_become 25 = .ok (.iinc 3 1, 3) := by decide +kernel
theorem dX7_become_28 : decode cX7_become 28 = .ok (.goto (-16), 3) := by decide +kernel
theorem dX7_become_31 : decode cX7_become 31 = .ok (.return_, 1) := by decide +kernel
theorem dX7_hasItem_0 : decode cX7_hasItem 0 = .ok (.iload_n 1, 1) := by decide +kernel
theorem dX7_hasItem_1 : decode cX7_hasItem 1 = .ok (.ifCond .lt 15, 3) := by decide +kernel
theorem dX7_hasItem_4 : decode cX7_hasItem 4 = .ok (.iload_n 1, 1) := by decide +kernel
theorem dX7_hasItem_5 : decode cX7_hasItem 5 = .ok (.aload_n 0, 1) := by decide +kernel
theorem dX7_hasItem_6 : decode cX7_hasItem 6 = .ok (.getfield 19, 3) := by decide +kernel
theorem dX7_hasItem_9 : decode cX7_hasItem 9 = .ok (.if_icmp .ge 7, 3) := by decide +kernel
theorem dX7_hasItem_12 : decode cX7_hasItem 12 = .ok (.iconst 1, 1) := by decide +kernel
theorem dX7_hasItem_13 : decode cX7_hasItem 13 = .ok (.goto 4, 3) := by decide +kernel
theorem dX7_hasItem_16 : decode cX7_hasItem 16 = .ok (.iconst 0, 1) := by decide +kernel
theorem dX7_hasItem_17 : decode cX7_hasItem 17 = .ok (.ireturn, 1) := by decide +kernel
theorem dX7_hasItems_0 : decode cX7_hasItems 0 = .ok (.iload_n 1, 1) := by decide +kernel
theorem dX7_hasItems_1 : decode cX7_hasItems 1 = .ok (.ifCond .lt 21, 3) := by decide +kernel
theorem dX7_hasItems_4 : decode cX7_hasItems 4 = .ok (.iload_n 2, 1) := by decide +kernel
theorem dX7_hasItems_5 : decode cX7_hasItems 5 = .ok (.ifCond .lt 17, 3) := by decide +kernel
theorem dX7_hasItems_8 : decode cX7_hasItems 8 = .ok (.iload_n 2, 1) := by decide +kernel
theorem dX7_hasItems_9 : decode cX7_hasItems 9 = .ok (.aload_n 0, 1) := by decide +kernel
theorem dX7_hasItems_10 : decode cX7_hasItems 10 = .ok (.getfield 19, 3) := by decide +kernel
theorem dX7_hasItems_13 : decode cX7_hasItems 13 = .ok (.iload_n 1, 1) := by decide +kernel
theorem dX7_hasItems_14 : decode cX7_hasItems 14 = .ok (.isub, 1) := by decide +kernel
theorem dX7_hasItems_15 : decode cX7_hasItems 15 = .ok (.if_icmp .gt 7, 3) := by decide +kernel
theorem dX7_hasItems_18 : decode cX7_hasItems 18 = .ok (.iconst 1, 1) := by decide +kernel
theorem dX7_hasItems_19 : decode cX7_hasItems 19 = .ok (.goto 4, 3) := by decide +kernel
theorem dX7_hasItems_22 : decode cX7_hasItems 22 = .ok (.iconst 0, 1) := by decide +kernel
theorem dX7_hasItems_23 : decode cX7_hasItems 23 = .ok (.ireturn, 1) := by decide +kernel
theorem dX7_narrowed_0 : decode cX7_narrowed 0 = .ok (.aload_n 0, 1) := by decide +kernel
theorem dX7_narrowed_1 : decode cX7_narrowed 1 = .ok (.getfield 15, 3) := by decide +kernel
theorem dX7_narrowed_4 : decode cX7_narrowed 4 = .ok (.tableswitch 48 0 3 #[32, 37, 42, 46], 32) := by decide +kernel
theorem dX7_narrowed_36 : decode cX7_narrowed 36 = .ok (.lload_n 1, 1) := by decide +kernel
theorem dX7_narrowed_37 : decode cX7_narrowed 37 = .ok (.l2i, 1) := by decide +kernel
theorem dX7_narrowed_38 : decode cX7_narrowed 38 = .ok (.i2b, 1) := by decide +kernel
theorem dX7_narrowed_39 : decode cX7_narrowed 39 = .ok (.i2l, 1) := by decide +kernel
theorem dX7_narrowed_40 : decode cX7_narrowed 40 = .ok (.lreturn, 1) := by decide +kernel
theorem dX7_narrowed_41 : decode cX7_narrowed 41 = .ok (.lload_n 1, 1) := by decide +kernel
theorem dX7_narrowed_42 : decode cX7_narrowed 42 = .ok (.l2i, 1) := by decide +kernel
theorem dX7_narrowed_43 : decode cX7_narrowed 43 = .ok (.i2s, 1) := by decide +kernel
theorem dX7_narrowed_44 : decode cX7_narrowed 44 = .ok (.i2l, 1) := by decide +kernel
theorem dX7_narrowed_45 : decode cX7_narrowed 45 = .ok (.lreturn, 1) := by decide +kernel
theorem dX7_narrowed_46 : decode cX7_narrowed 46 = .ok (.lload_n 1, 1) := by decide +kernel
theorem dX7_narrowed_47 : decode cX7_narrowed 47 = .ok (.l2i, 1) := by decide +kernel
theorem dX7_narrowed_48 : decode cX7_narrowed 48 = .ok (.i2l, 1) := by decide +kernel
theorem dX7_narrowed_49 : decode cX7_narrowed 49 = .ok (.lreturn, 1) := by decide +kernel
theorem dX7_narrowed_50 : decode cX7_narrowed 50 = .ok (.lload_n 1, 1) := by decide +kernel
theorem dX7_narrowed_51 : decode cX7_narrowed 51 = .ok (.lreturn, 1) := by decide +kernel
theorem dX7_narrowed_52 : decode cX7_narrowed 52 = .ok (.lload_n 1, 1) := by decide +kernel
theorem dX7_narrowed_53 : decode cX7_narrowed 53 = .ok (.lconst 0, 1) := by decide +kernel
theorem dX7_narrowed_54 : decode cX7_narrowed 54 = .ok (.lcmp, 1) := by decide +kernel
theorem dX7_narrowed_55 : decode cX7_narrowed 55 = .ok (.ifCond .eq 7, 3) := by decide +kernel
theorem dX7_narrowed_58 : decode cX7_narrowed 58 = .ok (.lconst 1, 1) := by decide +kernel
theorem dX7_narrowed_59 : decode cX7_narrowed 59 = .ok (.goto 4, 3) := by decide +kernel
theorem dX7_narrowed_62 : decode cX7_narrowed 62 = .ok (.lconst 0, 1) := by decide +kernel
theorem dX7_narrowed_63 : decode cX7_narrowed 63 = .ok (.lreturn, 1) := by decide +kernel
theorem dX8_init_0 : decode cX8_init 0 = .ok (.aload_n 0, 1) := by decide +kernel
theorem dX8_init_1 : decode cX8_init 1 = .ok (.invokespecial 3, 3) := by decide +kernel
theorem dX8_init_4 : decode cX8_init 4 = .ok (.aload_n 0, 1) := by decide +kernel
theorem dX8_init_5 : decode cX8_init 5 = .ok (.new 9, 3) := by decide +kernel
theorem dX8_init_8 : decode cX8_init 8 = .ok (.dup, 1) := by decide +kernel
theorem dX8_init_9 : decode cX8_init 9 = .ok (.invokespecial 11, 3) := by decide +kernel
theorem dX8_init_12 : decode cX8_init 12 = .ok (.putfield 12, 3) := by decide +kernel
theorem dX8_init_15 : decode cX8_init 15 = .ok (.aload_n 0, 1) := by decide +kernel
theorem dX8_init_16 : decode cX8_init 16 = .ok (.new 9, 3) := by decide +kernel
theorem dX8_init_19 : decode cX8_init 19 = .ok (.dup, 1) := by decide +kernel
theorem dX8_init_20 : decode cX8_init 20 = .ok (.invokespecial 11, 3) := by decide +kernel
theorem dX8_init_23 : decode cX8_init 23 = .ok (.putfield 18, 3) := by decide +kernel
theorem dX8_init_26 : decode cX8_init 26 = .ok (.aload_n 0, 1) := by decide +kernel
theorem dX8_init_27 : decode cX8_init 27 = .ok (.new 21, 3) := by decide +kernel
theorem dX8_init_30 : decode cX8_init 30 = .ok (.dup, 1) := by decide +kernel
theorem dX8_init_31 : decode cX8_init 31 = .ok (.iconst 5, 1) := by decide +kernel
theorem dX8_init_32 : decode cX8_init 32 = .ok (.invokespecial 23, 3) := by decide +kernel
theorem dX8_init_35 : decode cX8_init 35 = .ok (.putfield 26, 3) := by decide +kernel
theorem dX8_init_38 : decode cX8_init 38 = .ok (.aload_n 0, 1) := by decide +kernel
theorem dX8_init_39 : decode cX8_init 39 = .ok (.new 21, 3) := by decide +kernel
theorem dX8_init_42 : decode cX8_init 42 = .ok (.dup, 1) := by decide +kernel
theorem dX8_init_43 : decode cX8_init 43 = .ok (.bipush 10, 2) := by decide +kernel
theorem dX8_init_45 : decode cX8_init 45 = .ok (.invokespecial 23, 3) := by decide +kernel
theorem dX8_init_48 : decode cX8_init 48 = .ok (.putfield 30, 3) := by decide +kernel
theorem dX8_init_51 : decode cX8_init 51 = .ok (.aload_n 0, 1) := by decide +kernel
theorem dX8_init_52 : decode cX8_init 52 = .ok (.new 21, 3) := by decide +kernel
theorem dX8_init_55 : decode cX8_init 55 = .ok (.dup, 1) := by decide +kernel
theorem dX8_init_56 : decode cX8_init 56 = .ok (.bipush 8, 2) := by decide +kernel
theorem dX8_init_58 : decode cX8_init 58 = .ok (.invokespecial 23, 3) := by decide +kernel
theorem dX8_init_61 : decode cX8_init 61 = .ok (.putfield 33, 3) := by decide +kernel
theorem dX8_init_64 : decode cX8_init 64 = .ok (.aload_n 0, 1) := by decide +kernel
theorem dX8_init_65 : decode cX8_init 65 = .ok (.new 36, 3) := by decide +kernel
theorem dX8_init_68 : decode cX8_init 68 = .ok (.dup, 1) := by decide +kernel
theorem dX8_init_69 : decode cX8_init 69 = .ok (.invokespecial 38, 3) := by decide +kernel
theorem dX8_init_72 : decode cX8_init 72 = .ok (.putfield 39, 3) := by decide +kernel
theorem dX8_init_75 : decode cX8_init 75 = .ok (.aload_n 0, 1) := by decide +kernel
theorem dX8_init_76 : decode cX8_init 76 = .ok (.new 43, 3) := by decide +kernel
theorem dX8_init_79 : decode cX8_init 79 = .ok (.dup, 1) := by decide +kernel
theorem dX8_init_80 : decode cX8_init 80 = .ok (.invokespecial 45, 3) := by decide +kernel
theorem dX8_init_83 : decode cX8_init 83 = .ok (.putfield 46, 3) := by decide +kernel
theorem dX8_init_86 : decode cX8_init 86 = .ok (.aload_n 0, 1) := by decide +kernel
theorem dX8_init_87 : decode cX8_init 87 = .ok (.bipush 6, 2) := by decide +kernel
theorem dX8_init_89 : decode cX8_init 89 = .ok (.anewarray 50, 3) := by decide +kernel
theorem dX8_init_92 : decode cX8_init 92 = .ok (.putfield 52, 3) := by decide +kernel
theorem dX8_init_95 : decode cX8_init 95 = .ok (.aload_n 0, 1) := by decide +kernel
theorem dX8_init_96 : decode cX8_init 96 = .ok (.new 56, 3) := by decide +kernel
theorem dX8_init_99 : decode cX8_init 99 = .ok (.dup, 1) := by decide +kernel
theorem dX8_init_100 : decode cX8_init 100 = .ok (.invokespecial 58, 3) := by decide +kernel
theorem dX8_init_103 : decode cX8_init 103 = .ok (.putfield 59, 3) := by decide +kernel
theorem dX8_init_106 : decode cX8_init 106 = .ok (.aload_n 0, 1) := by decide +kernel
theorem dX8_init_107 : decode cX8_init 107 = .ok (.bipush 6, 2) := by decide +kernel
theorem dX8_init_109 : decode cX8_init 109 = .ok (.anewarray 63, 3) := by decide +kernel
theorem dX8_init_112 : decode cX8_init 112 = .ok (.putfield 65, 3) := by decide +kernel
theorem dX8_init_115 : decode cX8_init 115 = .ok (.iconst 0, 1) := by decide +kernel
theorem dX8_init_116 : decode cX8_init 116 = .ok (.istore_n 1, 1) := by decide +kernel
theorem dX8_init_117 : decode cX8_init 117 = .ok (.iload_n 1, 1) := by decide +kernel
theorem dX8_init_118 : decode cX8_init 118 = .ok (.bipush 6, 2) := by decide +kernel
theorem dX8_init_120 : decode cX8_init 120 = .ok (.if_icmp .ge 22, 3) := by decide +kernel
theorem dX8_init_123 : decode cX8_init 123 = .ok (.aload_n 0, 1) := by decide +kernel
theorem dX8_init_124 : decode cX8_init 124 = .ok (.getfield 52, 3) := by decide +kernel
theorem dX8_init_127 : decode cX8_init 127 = .ok (.iload_n 1, 1) := by decide +kernel
theorem dX8_init_128 : decode cX8_init 128 = .ok (.new 50, 3) := by decide +kernel
theorem dX8_init_131 : decode cX8_init 131 = .ok (.dup, 1) := by decide +kernel
theorem dX8_init_132 : decode cX8_init 132 = .ok (.invokespecial 69, 3) := by decide +kernel
theorem dX8_init_135 : decode cX8_init 135 = .ok (.aastore, 1) := by decide +kernel
theorem dX8_init_136 : decode cX8_init 136 = .ok (.iinc 1 1, 3) := by decide +kernel
theorem dX8_init_139 : decode cX8_init 139 = .ok (.goto (-22), 3) := by decide +kernel
theorem dX8_init_142 : decode cX8_init 142 = .ok (.iconst 0, 1) := by decide +kernel
theorem dX8_init_143 : decode cX8_init 143 = .ok (.istore_n 1, 1) := by decide +kernel
theorem dX8_init_144 : decode cX8_init 144 = .ok (.iload_n 1, 1) := by decide +kernel
theorem dX8_init_145 : decode cX8_init 145 = .ok (.bipush 6, 2) := by decide +kernel
theorem dX8_init_147 : decode cX8_init 147 = .ok (.if_icmp .ge 22, 3) := by decide +kernel
theorem dX8_init_150 : decode cX8_init 150 = .ok (.aload_n 0, 1) := by decide +kernel
theorem dX8_init_151 : decode cX8_init 151 = .ok (.getfield 65, 3) := by decide +kernel
theorem dX8_init_154 : decode cX8_init 154 = .ok (.iload_n 1, 1) := by decide +kernel
theorem dX8_init_155 : decode cX8_init 155 = .ok (.new 63, 3) := by decide +kernel
theorem dX8_init_158 : decode cX8_init 158 = .ok (.dup, 1) := by decide +kernel
theorem dX8_init_159 : decode cX8_init 159 = .ok (.invokespecial 70, 3) := by decide +kernel
theorem dX8_init_162 : decode cX8_init 162 = .ok (.aastore, 1) := by decide +kernel
theorem dX8_init_163 : decode cX8_init 163 = .ok (.iinc 1 1, 3) := by decide +kernel
theorem dX8_init_166 : decode cX8_init 166 = .ok (.goto (-22), 3) := by decide +kernel
theorem dX8_init_169 : decode cX8_init 169 = .ok (.return_, 1) := by decide +kernel
theorem dX8_gate_0 : decode cX8_gate 0 = .ok (.iload_n 1, 1) := by decide +kernel
theorem dX8_gate_1 : decode cX8_gate 1 = .ok (.invokestatic 71, 3) := by decide +kernel
theorem dX8_gate_4 : decode cX8_gate 4 = .ok (.ifCond .ne 6, 3) := by decide +kernel
theorem dX8_gate_7 : decode cX8_gate 7 = .ok (.bipush (-2), 2) := by decide +kernel
theorem dX8_gate_9 : decode cX8_gate 9 = .ok (.ireturn, 1) := by decide +kernel
theorem dX8_gate_10 : decode cX8_gate 10 = .ok (.aload_n 0, 1) := by decide +kernel
theorem dX8_gate_11 : decode cX8_gate 11 = .ok (.getfield 12, 3) := by decide +kernel
theorem dX8_gate_14 : decode cX8_gate 14 = .ok (.getfield 75, 3) := by decide +kernel
theorem dX8_gate_17 : decode cX8_gate 17 = .ok (.bipush 6, 2) := by decide +kernel
theorem dX8_gate_19 : decode cX8_gate 19 = .ok (.if_icmp .ne 6, 3) := by decide +kernel
theorem dX8_gate_22 : decode cX8_gate 22 = .ok (.bipush (-4), 2) := by decide +kernel
theorem dX8_gate_24 : decode cX8_gate 24 = .ok (.ireturn, 1) := by decide +kernel
theorem dX8_gate_25 : decode cX8_gate 25 = .ok (.aload_n 0, 1) := by decide +kernel
theorem dX8_gate_26 : decode cX8_gate 26 = .ok (.getfield 12, 3) := by decide +kernel
theorem dX8_gate_29 : decode cX8_gate 29 = .ok (.iload_n 1, 1) := by decide +kernel
theorem dX8_gate_30 : decode cX8_gate 30 = .ok (.invokevirtual 79, 3) := by decide +kernel
theorem dX8_gate_33 : decode cX8_gate 33 = .ok (.ireturn, 1) := by decide +kernel
theorem dX8_person_0 : decode cX8_person 0 = .ok (.iload_n 1, 1) := by decide +kernel
theorem dX8_person_1 : decode cX8_person 1 = .ok (.ifCond .lt 9, 3) := by decide +kernel
theorem dX8_person_4 : decode cX8_person 4 = .ok (.iload_n 1, 1) := by decide +kernel
theorem dX8_person_5 : decode cX8_person 5 = .ok (.bipush 7, 2) := by decide +kernel
theorem dX8_person_7 : decode cX8_person 7 = .ok (.if_icmp .lt 5, 3) := by decide +kernel
theorem dX8_person_10 : decode cX8_person 10 = .ok (.iconst (-1), 1) := by decide +kernel
theorem dX8_person_11 : decode cX8_person 11 = .ok (.ireturn, 1) := by decide +kernel
theorem dX8_person_12 : decode cX8_person 12 = .ok (.iload_n 2, 1) := by decide +kernel
theorem dX8_person_13 : decode cX8_person 13 = .ok (.invokestatic 83, 3) := by decide +kernel
theorem dX8_person_16 : decode cX8_person 16 = .ok (.ifCond .eq 10, 3) := by decide +kernel
theorem dX8_person_19 : decode cX8_person 19 = .ok (.iload_n 3, 1) := by decide +kernel
theorem dX8_person_20 : decode cX8_person 20 = .ok (.invokestatic 71, 3) := by decide +kernel
theorem dX8_person_23 : decode cX8_person 23 = .ok (.ifCond .ne 6, 3) := by decide +kernel
theorem dX8_person_26 : decode cX8_person 26 = .ok (.bipush (-2), 2) := by decide +kernel
theorem dX8_person_28 : decode cX8_person 28 = .ok (.ireturn, 1) := by decide +kernel
theorem dX8_person_29 : decode cX8_person 29 = .ok (.aload_n 0, 1) := by decide +kernel
theorem dX8_person_30 : decode cX8_person 30 = .ok (.getfield 12, 3) := by decide +kernel
theorem dX8_person_33 : decode cX8_person 33 = .ok (.getfield 86, 3) := by decide +kernel
theorem dX8_person_36 : decode cX8_person 36 = .ok (.bipush 6, 2) := by decide +kernel
theorem dX8_person_38 : decode cX8_person 38 = .ok (.if_icmp .ne 6, 3) := by decide +kernel
theorem dX8_person_41 : decode cX8_person 41 = .ok (.bipush (-4), 2) := by decide +kernel
theorem dX8_person_43 : decode cX8_person 43 = .ok (.ireturn, 1) := by decide +kernel
theorem dX8_person_44 : decode cX8_person 44 = .ok (.aload_n 0, 1) := by decide +kernel
theorem dX8_person_45 : decode cX8_person 45 = .ok (.getfield 12, 3) := by decide +kernel
theorem dX8_person_48 : decode cX8_person 48 = .ok (.iload_n 1, 1) := by decide +kernel
theorem dX8_person_49 : decode cX8_person 49 = .ok (.iload_n 2, 1) := by decide +kernel
theorem dX8_person_50 : decode cX8_person 50 = .ok (.iload_n 3, 1) := by decide +kernel
theorem dX8_person_51 : decode cX8_person 51 = .ok (.invokevirtual 89, 3) := by decide +kernel
theorem dX8_person_54 : decode cX8_person 54 = .ok (.ireturn, 1) := by decide +kernel
theorem dX8_of_0 : decode cX8_of 0 = .ok (.aload_n 0, 1) := by decide +kernel
theorem dX8_of_1 : decode cX8_of 1 = .ok (.getfield 12, 3) := by decide +kernel
theorem dX8_of_4 : decode cX8_of 4 = .ok (.iload_n 1, 1) := by decide +kernel
theorem dX8_of_5 : decode cX8_of 5 = .ok (.invokevirtual 93, 3) := by decide +kernel
theorem dX8_of_8 : decode cX8_of 8 = .ok (.ifCond .ne 7, 3) := by decide +kernel
theorem dX8_of_11 : decode cX8_of 11 = .ok (.sipush (-1001), 3) := by decide +kernel
theorem dX8_of_14 : decode cX8_of 14 = .ok (.ireturn, 1) := by decide +kernel
theorem dX8_of_15 : decode cX8_of 15 = .ok (.aload_n 0, 1) := by decide +kernel
theorem dX8_of_16 : decode cX8_of 16 = .ok (.getfield 12, 3) := by decide +kernel
theorem dX8_of_19 : decode cX8_of 19 = .ok (.getfield 96, 3) := by decide +kernel
theorem dX8_of_22 : decode cX8_of 22 = .ok (.iload_n 1, 1) := by decide +kernel
theorem dX8_of_23 : decode cX8_of 23 = .ok (.aaload, 1) := by decide +kernel
theorem dX8_of_24 : decode cX8_of 24 = .ok (.astore_n 3, 1) := by decide +kernel
theorem dX8_of_25 : decode cX8_of 25 = .ok (.iload_n 2, 1) := by decide +kernel
theorem dX8_of_26 : decode cX8_of 26 = .ok (.tableswitch 129 0 9 #[54, 59, 64, 69, 77, 82, 90, 99, 111, 120], 54) := by decide +kernel
theorem dX8_of_80 : decode cX8_of 80 = .ok (.aload_n 3, 1) := by decide +kernel
theorem dX8_of_81 : decode cX8_of 81 = .ok (.getfield 100, 3) := by decide +kernel
theorem dX8_of_84 : decode cX8_of 84 = .ok (.ireturn, 1) := by decide +kernel
theorem dX8_of_85 : decode cX8_of 85 = .ok (.aload_n 3, 1) := by decide +kernel
theorem dX8_of_86 : decode cX8_of 86 = .ok (.getfield 105, 3) := by decide +kernel
theorem dX8_of_89 : decode cX8_of 89 = .ok (.ireturn, 1) := by decide +kernel
theorem dX8_of_90 : decode cX8_of 90 = .ok (.aload_n 3, 1) := by decide +kernel
theorem dX8_of_91 : decode cX8_of 91 = .ok (.getfield 108, 3) := by decide +kernel
theorem dX8_of_94 : decode cX8_of 94 = .ok (.ireturn, 1) := by decide +kernel
theorem dX8_of_95 : decode cX8_of 95 = .ok (.aload_n 3, 1) := by decide +kernel
theorem dX8_of_96 : decode cX8_of 96 = .ok (.getfield 111, 3) := by decide +kernel
theorem dX8_of_99 : decode cX8_of 99 = .ok (.invokestatic 115, 3) := by decide +kernel
theorem dX8_of_102 : decode cX8_of 102 = .ok (.ireturn, 1) := by decide +kernel
theorem dX8_of_103 : decode cX8_of 103 = .ok (.aload_n 3, 1) := by decide +kernel
theorem dX8_of_104 : decode cX8_of 104 = .ok (.getfield 119, 3) := by decide +kernel
theorem dX8_of_107 : decode cX8_of 107 = .ok (.ireturn, 1) := by decide +kernel
theorem dX8_of_108 : decode cX8_of 108 = .ok (.aload_n 3, 1) := by decide +kernel
theorem dX8_of_109 : decode cX8_of 109 = .ok (.getfield 122, 3) := by decide +kernel
theorem dX8_of_112 : decode cX8_of 112 = .ok (.invokestatic 115, 3) := by decide +kernel
theorem dX8_of_115 : decode cX8_of 115 = .ok (.ireturn, 1) := by decide +kernel
theorem dX8_of_116 : decode cX8_of 116 = .ok (.aload_n 0, 1) := by decide +kernel
theorem dX8_of_117 : decode cX8_of 117 = .ok (.getfield 12, 3) := by decide +kernel
theorem dX8_of_120 : decode cX8_of 120 = .ok (.iload_n 1, 1) := by decide +kernel
theorem dX8_of_121 : decode cX8_of 121 = .ok (.invokevirtual 125, 3) := by decide +kernel
theorem dX8_of_124 : decode cX8_of 124 = .ok (.ireturn, 1) := by decide +kernel
theorem dX8_of_125 : decode cX8_of 125 = .ok (.aload_n 0, 1) := by decide +kernel
theorem dX8_of_126 : decode cX8_of 126 = .ok (.getfield 12, 3) := by decide +kernel
theorem dX8_of_129 : decode cX8_of 129 = .ok (.iload_n 1, 1) := by decide +kernel
theorem dX8_of_130 : decode cX8_of 130 = .ok (.invokevirtual 128, 3) := by decide +kernel
theorem dX8_of_133 : decode cX8_of 133 = .ok (.invokestatic 115, 3) := by decide +kernel
theorem dX8_of_136 : decode cX8_of 136 = .ok (.ireturn, 1) := by decide +kernel
theorem dX8_of_137 : decode cX8_of 137 = .ok (.aload_n 0, 1) := by decide +kernel
theorem dX8_of_138 : decode cX8_of 138 = .ok (.getfield 12, 3) := by decide +kernel
theorem dX8_of_141 : decode cX8_of 141 = .ok (.aload_n 3, 1) := by decide +kernel
theorem dX8_of_142 : decode cX8_of 142 = .ok (.invokevirtual 131, 3) := by decide +kernel
theorem dX8_of_145 : decode cX8_of 145 = .ok (.ireturn, 1) := by decide +kernel
theorem dX8_of_146 : decode cX8_of 146 = .ok (.aload_n 0, 1) := by decide +kernel
theorem dX8_of_147 : decode cX8_of 147 = .ok (.getfield 12, 3) := by decide +kernel
theorem dX8_of_150 : decode cX8_of 150 = .ok (.aload_n 3, 1) := by decide +kernel
theorem dX8_of_151 : decode cX8_of 151 = .ok (.invokevirtual 135, 3) := by decide +kernel
theorem dX8_of_154 : decode cX8_of 154 = .ok (.ireturn, 1) := by decide +kernel
theorem dX8_of_155 : decode cX8_of 155 = .ok (.sipush (-1001), 3) := by decide +kernel
theorem dX8_of_158 : decode cX8_of 158 = .ok (.ireturn, 1) := by decide +kernel
theorem dX8_put_0 : decode cX8_put 0 = .ok (.aload_n 0, 1) := by decide +kernel
theorem dX8_put_1 : decode cX8_put 1 = .ok (.getfield 12, 3) := by decide +kernel
theorem dX8_put_4 : decode cX8_put 4 = .ok (.iload_n 1, 1) := by decide +kernel
theorem dX8_put_5 : decode cX8_put 5 = .ok (.invokevirtual 93, 3) := by decide +kernel
theorem dX8_put_8 : decode cX8_put 8 = .ok (.ifCond .ne 5, 3) := by decide +kernel
theorem dX8_put_11 : decode cX8_put 11 = .ok (.iconst (-1), 1) := by decide +kernel
theorem dX8_put_12 : decode cX8_put 12 = .ok (.ireturn, 1) := by decide +kernel
theorem dX8_put_13 : decode cX8_put 13 = .ok (.iload_n 2, 1) := by decide +kernel
theorem dX8_put_14 : decode cX8_put 14 = .ok (.invokestatic 71, 3) := by decide +kernel
theorem dX8_put_17 : decode cX8_put 17 = .ok (.ifCond .ne 6, 3) := by decide +kernel
theorem dX8_put_20 : decode cX8_put 20 = .ok (.bipush (-2), 2) := by decide +kernel
theorem dX8_put_22 : decode cX8_put 22 = .ok (.ireturn, 1) := by decide +kernel
theorem dX8_put_23 : decode cX8_put 23 = .ok (.aload_n 0, 1) := by decide +kernel
theorem dX8_put_24 : decode cX8_put 24 = .ok (.getfield 12, 3) := by decide +kernel
theorem dX8_put_27 : decode cX8_put 27 = .ok (.getfield 96, 3) := by decide +kernel
theorem dX8_put_30 : decode cX8_put 30 = .ok (.iload_n 1, 1) := by decide +kernel
theorem dX8_put_31 : decode cX8_put 31 = .ok (.aaload, 1) := by decide +kernel
theorem dX8_put_32 : decode cX8_put 32 = .ok (.getfield 108, 3) := by decide +kernel
theorem dX8_put_35 : decode cX8_put 35 = .ok (.istore_n 3, 1) := by decide +kernel
theorem dX8_put_36 : decode cX8_put 36 = .ok (.aload_n 0, 1) := by decide +kernel
theorem dX8_put_37 : decode cX8_put 37 = .ok (.getfield 12, 3) := by decide +kernel
theorem dX8_put_40 : decode cX8_put 40 = .ok (.iload_n 1, 1) := by decide +kernel
theorem dX8_put_41 : decode cX8_put 41 = .ok (.iload_n 2, 1) := by decide +kernel
theorem dX8_put_42 : decode cX8_put 42 = .ok (.invokevirtual 138, 3) := by decide +kernel
theorem dX8_put_45 : decode cX8_put 45 = .ok (.iload_n 3, 1) := by decide +kernel
theorem dX8_put_46 : decode cX8_put 46 = .ok (.ireturn, 1) := by decide +kernel
theorem dX8_call_0 : decode cX8_call 0 = .ok (.aload_n 0, 1) := by decide +kernel
theorem dX8_call_1 : decode cX8_call 1 = .ok (.getfield 12, 3) := by decide +kernel
theorem dX8_call_4 : decode cX8_call 4 = .ok (.iload_n 1, 1) := by decide +kernel
theorem dX8_call_5 : decode cX8_call 5 = .ok (.invokevirtual 93, 3) := by decide +kernel
theorem dX8_call_8 : decode cX8_call 8 = .ok (.ifCond .ne 5, 3) := by decide +kernel
theorem dX8_call_11 : decode cX8_call 11 = .ok (.iconst (-1), 1) := by decide +kernel
theorem dX8_call_12 : decode cX8_call 12 = .ok (.ireturn, 1) := by decide +kernel
theorem dX8_call_13 : decode cX8_call 13 = .ok (.aload_n 0, 1) := by decide +kernel
theorem dX8_call_14 : decode cX8_call 14 = .ok (.getfield 12, 3) := by decide +kernel
theorem dX8_call_17 : decode cX8_call 17 = .ok (.getfield 96, 3) := by decide +kernel
theorem dX8_call_20 : decode cX8_call 20 = .ok (.iload_n 1, 1) := by decide +kernel
theorem dX8_call_21 : decode cX8_call 21 = .ok (.aaload, 1) := by decide +kernel
theorem dX8_call_22 : decode cX8_call 22 = .ok (.astore_n 3, 1) := by decide +kernel
theorem dX8_call_23 : decode cX8_call 23 = .ok (.aload_n 3, 1) := by decide +kernel
theorem dX8_call_24 : decode cX8_call 24 = .ok (.getfield 111, 3) := by decide +kernel
theorem dX8_call_27 : decode cX8_call 27 = .ok (.invokestatic 115, 3) := by decide +kernel
theorem dX8_call_30 : decode cX8_call 30 = .ok (.istore 4, 2) := by decide +kernel
theorem dX8_call_32 : decode cX8_call 32 = .ok (.aload_n 3, 1) := by decide +kernel
theorem dX8_call_33 : decode cX8_call 33 = .ok (.iload_n 2, 1) := by decide +kernel
theorem dX8_call_34 : decode cX8_call 34 = .ok (.putfield 111, 3) := by decide +kernel
theorem dX8_call_37 : decode cX8_call 37 = .ok (.iload_n 2, 1) := by decide +kernel
theorem dX8_call_38 : decode cX8_call 38 = .ok (.ifCond .ne 8, 3) := by decide +kernel
theorem dX8_call_41 : decode cX8_call 41 = .ok (.aload_n 3, 1) := by decide +kernel
theorem dX8_call_42 : decode cX8_call 42 = .ok (.iconst 0, 1) := by decide +kernel
theorem dX8_call_43 : decode cX8_call 43 = .ok (.putfield 119, 3) := by decide +kernel
theorem dX8_call_46 : decode cX8_call 46 = .ok (.iload 4, 2) := by decide +kernel
theorem dX8_call_48 : decode cX8_call 48 = .ok (.ireturn, 1) := by decide +kernel
theorem dX8_shut_0 : decode cX8_shut 0 = .ok (.aload_n 0, 1) := by decide +kernel
theorem dX8_shut_1 : decode cX8_shut 1 = .ok (.getfield 12, 3) := by decide +kernel
theorem dX8_shut_4 : decode cX8_shut 4 = .ok (.iload_n 1, 1) := by decide +kernel
theorem dX8_shut_5 : decode cX8_shut 5 = .ok (.invokevirtual 142, 3) := by decide +kernel
theorem dX8_shut_8 : decode cX8_shut 8 = .ok (.ifCond .ne 5, 3) := by decide +kernel
theorem dX8_shut_11 : decode cX8_shut 11 = .ok (.iconst (-1), 1) := by decide +kernel
theorem dX8_shut_12 : decode cX8_shut 12 = .ok (.ireturn, 1) := by decide +kernel
theorem dX8_shut_13 : decode cX8_shut 13 = .ok (.aload_n 0, 1) := by decide +kernel
theorem dX8_shut_14 : decode cX8_shut 14 = .ok (.getfield 12, 3) := by decide +kernel
theorem dX8_shut_17 : decode cX8_shut 17 = .ok (.iload_n 1, 1) := by decide +kernel
theorem dX8_shut_18 : decode cX8_shut 18 = .ok (.invokevirtual 145, 3) := by decide +kernel
theorem dX8_shut_21 : decode cX8_shut 21 = .ok (.invokestatic 115, 3) := by decide +kernel
theorem dX8_shut_24 : decode cX8_shut 24 = .ok (.istore_n 3, 1) := by decide +kernel
theorem dX8_shut_25 : decode cX8_shut 25 = .ok (.aload_n 0, 1) := by decide +kernel
theorem dX8_shut_26 : decode cX8_shut 26 = .ok (.getfield 12, 3) := by decide +kernel
theorem dX8_shut_29 : decode cX8_shut 29 = .ok (.iload_n 1, 1) := by decide +kernel
theorem dX8_shut_30 : decode cX8_shut 30 = .ok (.iload_n 2, 1) := by decide +kernel
theorem dX8_shut_31 : decode cX8_shut 31 = .ok (.invokevirtual 148, 3) := by decide +kernel
theorem dX8_shut_34 : decode cX8_shut 34 = .ok (.iload_n 3, 1) := by decide +kernel
theorem dX8_shut_35 : decode cX8_shut 35 = .ok (.ireturn, 1) := by decide +kernel
theorem dX8_row_0 : decode cX8_row 0 = .ok (.aload_n 0, 1) := by decide +kernel
theorem dX8_row_1 : decode cX8_row 1 = .ok (.getfield 12, 3) := by decide +kernel
theorem dX8_row_4 : decode cX8_row 4 = .ok (.iload_n 1, 1) := by decide +kernel
theorem dX8_row_5 : decode cX8_row 5 = .ok (.invokevirtual 93, 3) := by decide +kernel
theorem dX8_row_8 : decode cX8_row 8 = .ok (.ifCond .eq 12, 3) := by decide +kernel
theorem dX8_row_11 : decode cX8_row 11 = .ok (.iload_n 2, 1) := by decide +kernel
theorem dX8_row_12 : decode cX8_row 12 = .ok (.ifCond .lt 8, 3) := by decide +kernel
theorem dX8_row_15 : decode cX8_row 15 = .ok (.iload_n 2, 1) := by decide +kernel
theorem dX8_row_16 : decode cX8_row 16 = .ok (.iconst 4, 1) := by decide +kernel
theorem dX8_row_17 : decode cX8_row 17 = .ok (.if_icmp .lt 5, 3) := by decide +kernel
theorem dX8_row_20 : decode cX8_row 20 = .ok (.iconst (-1), 1) := by decide +kernel
theorem dX8_row_21 : decode cX8_row 21 = .ok (.ireturn, 1) := by decide +kernel
theorem dX8_row_22 : decode cX8_row 22 = .ok (.iload_n 3, 1) := by decide +kernel
theorem dX8_row_23 : decode cX8_row 23 = .ok (.invokestatic 83, 3) := by decide +kernel
theorem dX8_row_26 : decode cX8_row 26 = .ok (.ifCond .ne 6, 3) := by decide +kernel
theorem dX8_row_29 : decode cX8_row 29 = .ok (.bipush (-2), 2) := by decide +kernel
theorem dX8_row_31 : decode cX8_row 31 = .ok (.ireturn, 1) := by decide +kernel
theorem dX8_row_32 : decode cX8_row 32 = .ok (.aload_n 0, 1) := by decide +kernel
theorem dX8_row_33 : decode cX8_row 33 = .ok (.getfield 12, 3) := by decide +kernel
theorem dX8_row_36 : decode cX8_row 36 = .ok (.getfield 96, 3) := by decide +kernel
theorem dX8_row_39 : decode cX8_row 39 = .ok (.iload_n 1, 1) := by decide +kernel
theorem dX8_row_40 : decode cX8_row 40 = .ok (.aaload, 1) := by decide +kernel
theorem dX8_row_41 : decode cX8_row 41 = .ok (.astore 4, 2) := by decide +kernel
theorem dX8_row_43 : decode cX8_row 43 = .ok (.aload 4, 2) := by decide +kernel
theorem dX8_row_45 : decode cX8_row 45 = .ok (.getfield 100, 3) := by decide +kernel
theorem dX8_row_48 : decode cX8_row 48 = .ok (.bipush 6, 2) := by decide +kernel
theorem dX8_row_50 : decode cX8_row 50 = .ok (.if_icmp .eq 6, 3) := by decide +kernel
theorem dX8_row_53 : decode cX8_row 53 = .ok (.bipush (-3), 2) := by decide +kernel
theorem dX8_row_55 : decode cX8_row 55 = .ok (.ireturn, 1) := by decide +kernel
theorem dX8_row_56 : decode cX8_row 56 = .ok (.aload 4, 2) := by decide +kernel
theorem dX8_row_58 : decode cX8_row 58 = .ok (.getfield 152, 3) := by decide +kernel
theorem dX8_row_61 : decode cX8_row 61 = .ok (.iload_n 2, 1) := by decide +kernel
theorem dX8_row_62 : decode cX8_row 62 = .ok (.iaload, 1) := by decide +kernel
theorem dX8_row_63 : decode cX8_row 63 = .ok (.istore 5, 2) := by decide +kernel
theorem dX8_row_65 : decode cX8_row 65 = .ok (.aload 4, 2) := by decide +kernel
theorem dX8_row_67 : decode cX8_row 67 = .ok (.getfield 152, 3) := by decide +kernel
theorem dX8_row_70 : decode cX8_row 70 = .ok (.iload_n 2, 1) := by decide +kernel
theorem dX8_row_71 : decode cX8_row 71 = .ok (.iload_n 3, 1) := by decide +kernel
theorem dX8_row_72 : decode cX8_row 72 = .ok (.iastore, 1) := by decide +kernel
theorem dX8_row_73 : decode cX8_row 73 = .ok (.iload 5, 2) := by decide +kernel
theorem dX8_row_75 : decode cX8_row 75 = .ok (.ireturn, 1) := by decide +kernel
theorem dX8_round_0 : decode cX8_round 0 = .ok (.iload_n 1, 1) := by decide +kernel
theorem dX8_round_1 : decode cX8_round 1 = .ok (.iconst (-1), 1) := by decide +kernel
theorem dX8_round_2 : decode cX8_round 2 = .ok (.if_icmp .ne 12, 3) := by decide +kernel
theorem dX8_round_5 : decode cX8_round 5 = .ok (.aload_n 0, 1) := by decide +kernel
theorem dX8_round_6 : decode cX8_round 6 = .ok (.getfield 12, 3) := by decide +kernel
theorem dX8_round_9 : decode cX8_round 9 = .ok (.invokevirtual 156, 3) := by decide +kernel
theorem dX8_round_12 : decode cX8_round 12 = .ok (.iconst 0, 1) := by decide +kernel
theorem dX8_round_13 : decode cX8_round 13 = .ok (.ireturn, 1) := by decide +kernel
theorem dX8_round_14 : decode cX8_round 14 = .ok (.aload_n 0, 1) := by decide +kernel
theorem dX8_round_15 : decode cX8_round 15 = .ok (.getfield 12, 3) := by decide +kernel
theorem dX8_round_18 : decode cX8_round 18 = .ok (.iload_n 1, 1) := by decide +kernel
theorem dX8_round_19 : decode cX8_round 19 = .ok (.invokevirtual 142, 3) := by decide +kernel
theorem dX8_round_22 : decode cX8_round 22 = .ok (.ifCond .ne 5, 3) := by decide +kernel
theorem dX8_round_25 : decode cX8_round 25 = .ok (.iconst (-1), 1) := by decide +kernel
theorem dX8_round_26 : decode cX8_round 26 = .ok (.ireturn, 1) := by decide +kernel
theorem dX8_round_27 : decode cX8_round 27 = .ok (.aload_n 0, 1) := by decide +kernel
theorem dX8_round_28 : decode cX8_round 28 = .ok (.getfield 12, 3) := by decide +kernel
theorem dX8_round_31 : decode cX8_round 31 = .ok (.getfield 159, 3) := by decide +kernel
theorem dX8_round_34 : decode cX8_round 34 = .ok (.bipush 6, 2) := by decide +kernel
theorem dX8_round_36 : decode cX8_round 36 = .ok (.if_icmp .ne 6, 3) := by decide +kernel
theorem dX8_round_39 : decode cX8_round 39 = .ok (.bipush (-4), 2) := by decide +kernel
theorem dX8_round_41 : decode cX8_round 41 = .ok (.ireturn, 1) := by decide +kernel
theorem dX8_round_42 : decode cX8_round 42 = .ok (.aload_n 0, 1) := by decide +kernel
theorem dX8_round_43 : decode cX8_round 43 = .ok (.getfield 12, 3) := by decide +kernel
theorem dX8_round_46 : decode cX8_round 46 = .ok (.getfield 162, 3) := by decide +kernel
theorem dX8_round_49 : decode cX8_round 49 = .ok (.aload_n 0, 1) := by decide +kernel
theorem dX8_round_50 : decode cX8_round 50 = .ok (.getfield 12, 3) := by decide +kernel
theorem dX8_round_53 : decode cX8_round 53 = .ok (.getfield 159, 3) := by decide +kernel
theorem dX8_round_56 : decode cX8_round 56 = .ok (.iload_n 1, 1) := by decide +kernel
theorem dX8_round_57 : decode cX8_round 57 = .ok (.iastore, 1) := by decide +kernel
theorem dX8_round_58 : decode cX8_round 58 = .ok (.aload_n 0, 1) := by decide +kernel
theorem dX8_round_59 : decode cX8_round 59 = .ok (.getfield 12, 3) := by decide +kernel
theorem dX8_round_62 : decode cX8_round 62 = .ok (.dup, 1) := by decide +kernel
theorem dX8_round_63 : decode cX8_round 63 = .ok (.getfield 159, 3) := by decide +kernel
theorem dX8_round_66 : decode cX8_round 66 = .ok (.iconst 1, 1) := by decide +kernel
theorem dX8_round_67 : decode cX8_round 67 = .ok (.iadd, 1) := by decide +kernel
theorem dX8_round_68 : decode cX8_round 68 = .ok (.putfield 159, 3) := by decide +kernel
theorem dX8_round_71 : decode cX8_round 71 = .ok (.aload_n 0, 1) := by decide +kernel
theorem dX8_round_72 : decode cX8_round 72 = .ok (.getfield 12, 3) := by decide +kernel
theorem dX8_round_75 : decode cX8_round 75 = .ok (.getfield 159, 3) := by decide +kernel
theorem dX8_round_78 : decode cX8_round 78 = .ok (.ireturn, 1) := by decide +kernel
theorem dX8_feed_0 : decode cX8_feed 0 = .ok (.iload_n 1, 1) := by decide +kernel
theorem dX8_feed_1 : decode cX8_feed 1 = .ok (.ifCond .lt 9, 3) := by decide +kernel
theorem dX8_feed_4 : decode cX8_feed 4 = .ok (.iload_n 1, 1) := by decide +kernel
theorem dX8_feed_5 : decode cX8_feed 5 = .ok (.bipush 127, 2) := by decide +kernel
theorem dX8_feed_7 : decode cX8_feed 7 = .ok (.if_icmp .le 6, 3) := by decide +kernel
theorem dX8_feed_10 : decode cX8_feed 10 = .ok (.bipush (-2), 2) := by decide +kernel
theorem dX8_feed_12 : decode cX8_feed 12 = .ok (.ireturn, 1) := by decide +kernel
theorem dX8_feed_13 : decode cX8_feed 13 = .ok (.aload_n 0, 1) := by decide +kernel
theorem dX8_feed_14 : decode cX8_feed 14 = .ok (.getfield 46, 3) := by decide +kernel
theorem dX8_feed_17 : decode cX8_feed 17 = .ok (.getfield 165, 3) := by decide +kernel
theorem dX8_feed_20 : decode cX8_feed 20 = .ok (.bipush 100, 2) := by decide +kernel
theorem dX8_feed_22 : decode cX8_feed 22 = .ok (.if_icmp .ne 6, 3) := by decide +kernel
theorem dX8_feed_25 : decode cX8_feed 25 = .ok (.bipush (-4), 2) := by decide +kernel
theorem dX8_feed_27 : decode cX8_feed 27 = .ok (.ireturn, 1) := by decide +kernel
theorem dX8_feed_28 : decode cX8_feed 28 = .ok (.aload_n 0, 1) := by decide +kernel
theorem dX8_feed_29 : decode cX8_feed 29 = .ok (.getfield 46, 3) := by decide +kernel
theorem dX8_feed_32 : decode cX8_feed 32 = .ok (.iload_n 1, 1) := by decide +kernel
theorem dX8_feed_33 : decode cX8_feed 33 = .ok (.invokevirtual 168, 3) := by decide +kernel
theorem dX8_feed_36 : decode cX8_feed 36 = .ok (.ireturn, 1) := by decide +kernel
theorem dX8_dusk_0 : decode cX8_dusk 0 = .ok (.aload_n 0, 1) := by decide +kernel
theorem dX8_dusk_1 : decode cX8_dusk 1 = .ok (.getfield 171, 3) := by decide +kernel
theorem dX8_dusk_4 : decode cX8_dusk 4 = .ok (.bipush 6, 2) := by decide +kernel
theorem dX8_dusk_6 : decode cX8_dusk 6 = .ok (.if_icmp .ne 6, 3) := by decide +kernel
theorem dX8_dusk_9 : decode cX8_dusk 9 = .ok (.bipush (-4), 2) := by decide +kernel
theorem dX8_dusk_11 : decode cX8_dusk 11 = .ok (.ireturn, 1) := by decide +kernel
theorem dX8_dusk_12 : decode cX8_dusk 12 = .ok (.aload_n 0, 1) := by decide +kernel
theorem dX8_dusk_13 : decode cX8_dusk 13 = .ok (.getfield 46, 3) := by decide +kernel
theorem dX8_dusk_16 : decode cX8_dusk 16 = .ok (.aload_n 0, 1) := by decide +kernel
theorem dX8_dusk_17 : decode cX8_dusk 17 = .ok (.getfield 52, 3) := by decide +kernel
theorem dX8_dusk_20 : decode cX8_dusk 20 = .ok (.aload_n 0, 1) := by decide +kernel
theorem dX8_dusk_21 : decode cX8_dusk 21 = .ok (.getfield 171, 3) := by decide +kernel
theorem dX8_dusk_24 : decode cX8_dusk 24 = .ok (.aaload, 1) := by decide +kernel
theorem dX8_dusk_25 : decode cX8_dusk 25 = .ok (.invokevirtual 174, 3) := by decide +kernel
theorem dX8_dusk_28 : decode cX8_dusk 28 = .ok (.istore_n 1, 1) := by decide +kernel
theorem dX8_dusk_29 : decode cX8_dusk 29 = .ok (.aload_n 0, 1) := by decide +kernel
theorem dX8_dusk_30 : decode cX8_dusk 30 = .ok (.getfield 46, 3) := by decide +kernel
theorem dX8_dusk_33 : decode cX8_dusk 33 = .ok (.iconst 0, 1) := by decide +kernel
theorem dX8_dusk_34 : decode cX8_dusk 34 = .ok (.putfield 165, 3) := by decide +kernel
theorem dX8_dusk_37 : decode cX8_dusk 37 = .ok (.iload_n 1, 1) := by decide +kernel
theorem dX8_dusk_38 : decode cX8_dusk 38 = .ok (.ifCond .lt 8, 3) := by decide +kernel
theorem dX8_dusk_41 : decode cX8_dusk 41 = .ok (.bipush (-10), 2) := by decide +kernel
theorem dX8_dusk_43 : decode cX8_dusk 43 = .ok (.iload_n 1, 1) := by decide +kernel
theorem dX8_dusk_44 : decode cX8_dusk 44 = .ok (.isub, 1) := by decide +kernel
theorem dX8_dusk_45 : decode cX8_dusk 45 = .ok (.ireturn, 1) := by decide +kernel
theorem dX8_dusk_46 : decode cX8_dusk 46 = .ok (.aload_n 0, 1) := by decide +kernel
theorem dX8_dusk_47 : decode cX8_dusk 47 = .ok (.getfield 12, 3) := by decide +kernel
theorem dX8_dusk_50 : decode cX8_dusk 50 = .ok (.aload_n 0, 1) := by decide +kernel
theorem dX8_dusk_51 : decode cX8_dusk 51 = .ok (.getfield 52, 3) := by decide +kernel
theorem dX8_dusk_54 : decode cX8_dusk 54 = .ok (.aload_n 0, 1) := by decide +kernel
theorem dX8_dusk_55 : decode cX8_dusk 55 = .ok (.getfield 171, 3) := by decide +kernel
theorem dX8_dusk_58 : decode cX8_dusk 58 = .ok (.aaload, 1) := by decide +kernel
theorem dX8_dusk_59 : decode cX8_dusk 59 = .ok (.putfield 178, 3) := by decide +kernel
theorem dX8_dusk_62 : decode cX8_dusk 62 = .ok (.aload_n 0, 1) := by decide +kernel
theorem dX8_dusk_63 : decode cX8_dusk 63 = .ok (.dup, 1) := by decide +kernel
theorem dX8_dusk_64 : decode cX8_dusk 64 = .ok (.getfield 171, 3) := by decide +kernel
theorem dX8_dusk_67 : decode cX8_dusk 67 = .ok (.iconst 1, 1) := by decide +kernel
theorem dX8_dusk_68 : decode cX8_dusk 68 = .ok (.iadd, 1) := by decide +kernel
theorem dX8_dusk_69 : decode cX8_dusk 69 = .ok (.putfield 171, 3) := by decide +kernel
theorem dX8_dusk_72 : decode cX8_dusk 72 = .ok (.aload_n 0, 1) := by decide +kernel
theorem dX8_dusk_73 : decode cX8_dusk 73 = .ok (.getfield 171, 3) := by decide +kernel
theorem dX8_dusk_76 : decode cX8_dusk 76 = .ok (.iconst 1, 1) := by decide +kernel
theorem dX8_dusk_77 : decode cX8_dusk 77 = .ok (.isub, 1) := by decide +kernel
theorem dX8_dusk_78 : decode cX8_dusk 78 = .ok (.ireturn, 1) := by decide +kernel
theorem dX8_told_0 : decode cX8_told 0 = .ok (.iload_n 1, 1) := by decide +kernel
theorem dX8_told_1 : decode cX8_told 1 = .ok (.bipush 10, 2) := by decide +kernel
theorem dX8_told_3 : decode cX8_told 3 = .ok (.if_icmp .lt 30, 3) := by decide +kernel
theorem dX8_told_6 : decode cX8_told 6 = .ok (.iload_n 1, 1) := by decide +kernel
theorem dX8_told_7 : decode cX8_told 7 = .ok (.bipush 10, 2) := by decide +kernel
theorem dX8_told_9 : decode cX8_told 9 = .ok (.aload_n 0, 1) := by decide +kernel
theorem dX8_told_10 : decode cX8_told 10 = .ok (.getfield 12, 3) := by decide +kernel
theorem dX8_told_13 : decode cX8_told 13 = .ok (.getfield 75, 3) := by decide +kernel
theorem dX8_told_16 : decode cX8_told 16 = .ok (.iadd, 1) := by decide +kernel
theorem dX8_told_17 : decode cX8_told 17 = .ok (.if_icmp .ge 16, 3) := by decide +kernel
theorem dX8_told_20 : decode cX8_told 20 = .ok (.aload_n 0, 1) := by decide +kernel
theorem dX8_told_21 : decode cX8_told 21 = .ok (.getfield 12, 3) := by decide +kernel
theorem dX8_told_24 : decode cX8_told 24 = .ok (.getfield 182, 3) := by decide +kernel
theorem dX8_told_27 : decode cX8_told 27 = .ok (.iload_n 1, 1) := by decide +kernel
theorem dX8_told_28 : decode cX8_told 28 = .ok (.bipush 10, 2) := by decide +kernel
theorem dX8_told_30 : decode cX8_told 30 = .ok (.isub, 1) := by decide +kernel
theorem dX8_told_31 : decode cX8_told 31 = .ok (.iaload, 1) := by decide +kernel
theorem dX8_told_32 : decode cX8_told 32 = .ok (.ireturn, 1) := by decide +kernel
theorem dX8_told_33 : decode cX8_told 33 = .ok (.iload_n 1, 1) := by decide +kernel
theorem dX8_told_34 : decode cX8_told 34 = .ok (.tableswitch 104 0 6 #[42, 50, 61, 72, 80, 88, 96], 42) := by decide +kernel
theorem dX8_told_76 : decode cX8_told 76 = .ok (.aload_n 0, 1) := by decide +kernel
theorem dX8_told_77 : decode cX8_told 77 = .ok (.getfield 12, 3) := by decide +kernel
theorem dX8_told_80 : decode cX8_told 80 = .ok (.getfield 185, 3) := by decide +kernel
theorem dX8_told_83 : decode cX8_told 83 = .ok (.ireturn, 1) := by decide +kernel
theorem dX8_told_84 : decode cX8_told 84 = .ok (.aload_n 0, 1) := by decide +kernel
theorem dX8_told_85 : decode cX8_told 85 = .ok (.getfield 12, 3) := by decide +kernel
theorem dX8_told_88 : decode cX8_told 88 = .ok (.getfield 178, 3) := by decide +kernel
theorem dX8_told_91 : decode cX8_told 91 = .ok (.getfield 188, 3) := by decide +kernel
theorem dX8_told_94 : decode cX8_told 94 = .ok (.ireturn, 1) := by decide +kernel
theorem dX8_told_95 : decode cX8_told 95 = .ok (.aload_n 0, 1) := by decide +kernel
theorem dX8_told_96 : decode cX8_told 96 = .ok (.getfield 12, 3) := by decide +kernel
theorem dX8_told_99 : decode cX8_told 99 = .ok (.getfield 178, 3) := by decide +kernel
theorem dX8_told_102 : decode cX8_told 102 = .ok (.getfield 191, 3) := by decide +kernel
theorem dX8_told_105 : decode cX8_told 105 = .ok (.ireturn, 1) := by decide +kernel
theorem dX8_told_106 : decode cX8_told 106 = .ok (.aload_n 0, 1) := by decide +kernel
theorem dX8_told_107 : decode cX8_told 107 = .ok (.getfield 12, 3) := by decide +kernel
theorem dX8_told_110 : decode cX8_told 110 = .ok (.getfield 194, 3) := by decide +kernel
theorem dX8_told_113 : decode cX8_told 113 = .ok (.ireturn, 1) := by decide +kernel
theorem dX8_told_114 : decode cX8_told 114 = .ok (.aload_n 0, 1) := by decide +kernel
theorem dX8_told_115 : decode cX8_told 115 = .ok (.getfield 12, 3) := by decide +kernel
theorem dX8_told_118 : decode cX8_told 118 = .ok (.getfield 197, 3) := by decide +kernel
theorem dX8_told_121 : decode cX8_told 121 = .ok (.ireturn, 1) := by decide +kernel
theorem dX8_told_122 : decode cX8_told 122 = .ok (.aload_n 0, 1) := by decide +kernel
theorem dX8_told_123 : decode cX8_told 123 = .ok (.getfield 12, 3) := by decide +kernel
theorem dX8_told_126 : decode cX8_told 126 = .ok (.getfield 200, 3) := by decide +kernel
theorem dX8_told_129 : decode cX8_told 129 = .ok (.ireturn, 1) := by decide +kernel
theorem dX8_told_130 : decode cX8_told 130 = .ok (.aload_n 0, 1) := by decide +kernel
theorem dX8_told_131 : decode cX8_told 131 = .ok (.getfield 12, 3) := by decide +kernel
theorem dX8_told_134 : decode cX8_told 134 = .ok (.invokevirtual 203, 3) := by decide +kernel
theorem dX8_told_137 : decode cX8_told 137 = .ok (.ireturn, 1) := by decide +kernel
theorem dX8_told_138 : decode cX8_told 138 = .ok (.iconst (-1), 1) := by decide +kernel
theorem dX8_told_139 : decode cX8_told 139 = .ok (.ireturn, 1) := by decide +kernel
theorem dX8_pass_0 : decode cX8_pass 0 = .ok (.iload_n 1, 1) := by decide +kernel
theorem dX8_pass_1 : decode cX8_pass 1 = .ok (.ifCond .lt 9, 3) := by decide +kernel
theorem dX8_pass_4 : decode cX8_pass 4 = .ok (.iload_n 1, 1) := by decide +kernel
theorem dX8_pass_5 : decode cX8_pass 5 = .ok (.bipush 60, 2) := by decide +kernel
theorem dX8_pass_7 : decode cX8_pass 7 = .ok (.if_icmp .le 6, 3) := by decide +kernel
theorem dX8_pass_10 : decode cX8_pass 10 = .ok (.bipush (-2), 2) := by decide +kernel
theorem dX8_pass_12 : decode cX8_pass 12 = .ok (.ireturn, 1) := by decide +kernel
theorem dX8_pass_13 : decode cX8_pass 13 = .ok (.aload_n 0, 1) := by decide +kernel
theorem dX8_pass_14 : decode cX8_pass 14 = .ok (.getfield 12, 3) := by decide +kernel
theorem dX8_pass_17 : decode cX8_pass 17 = .ok (.getfield 185, 3) := by decide +kernel
theorem dX8_pass_20 : decode cX8_pass 20 = .ok (.iload_n 1, 1) := by decide +kernel
theorem dX8_pass_21 : decode cX8_pass 21 = .ok (.iadd, 1) := by decide +kernel
theorem dX8_pass_22 : decode cX8_pass 22 = .ok (.sipush 9999, 3) := by decide +kernel
theorem dX8_pass_25 : decode cX8_pass 25 = .ok (.if_icmp .le 6, 3) := by decide +kernel
theorem dX8_pass_28 : decode cX8_pass 28 = .ok (.bipush (-3), 2) := by decide +kernel
theorem dX8_pass_30 : decode cX8_pass 30 = .ok (.ireturn, 1) := by decide +kernel
theorem dX8_pass_31 : decode cX8_pass 31 = .ok (.aload_n 0, 1) := by decide +kernel
theorem dX8_pass_32 : decode cX8_pass 32 = .ok (.getfield 12, 3) := by decide +kernel
theorem dX8_pass_35 : decode cX8_pass 35 = .ok (.iload_n 1, 1) := by decide +kernel
theorem dX8_pass_36 : decode cX8_pass 36 = .ok (.invokevirtual 207, 3) := by decide +kernel
theorem dX8_pass_39 : decode cX8_pass 39 = .ok (.aload_n 0, 1) := by decide +kernel
theorem dX8_pass_40 : decode cX8_pass 40 = .ok (.getfield 12, 3) := by decide +kernel
theorem dX8_pass_43 : decode cX8_pass 43 = .ok (.getfield 185, 3) := by decide +kernel
theorem dX8_pass_46 : decode cX8_pass 46 = .ok (.ireturn, 1) := by decide +kernel
theorem dX8_on_0 : decode cX8_on 0 = .ok (.iload_n 2, 1) := by decide +kernel
theorem dX8_on_1 : decode cX8_on 1 = .ok (.bipush 10, 2) := by decide +kernel
theorem dX8_on_3 : decode cX8_on 3 = .ok (.if_icmp .lt 21, 3) := by decide +kernel
theorem dX8_on_6 : decode cX8_on 6 = .ok (.aload_n 0, 1) := by decide +kernel
theorem dX8_on_7 : decode cX8_on 7 = .ok (.getfield 12, 3) := by decide +kernel
theorem dX8_on_10 : decode cX8_on 10 = .ok (.iload_n 2, 1) := by decide +kernel
theorem dX8_on_11 : decode cX8_on 11 = .ok (.bipush 10, 2) := by decide +kernel
theorem dX8_on_13 : decode cX8_on 13 = .ok (.isub, 1) := by decide +kernel
theorem dX8_on_14 : decode cX8_on 14 = .ok (.invokevirtual 93, 3) := by decide +kernel
theorem dX8_on_17 : decode cX8_on 17 = .ok (.ifCond .eq 7, 3) := by decide +kernel
theorem dX8_on_20 : decode cX8_on 20 = .ok (.iconst 1, 1) := by decide +kernel
theorem dX8_on_21 : decode cX8_on 21 = .ok (.goto 4, 3) := by decide +kernel
theorem dX8_on_24 : decode cX8_on 24 = .ok (.iconst 0, 1) := by decide +kernel
theorem dX8_on_25 : decode cX8_on 25 = .ok (.istore_n 3, 1) := by decide +kernel
theorem dX8_on_26 : decode cX8_on 26 = .ok (.iload_n 2, 1) := by decide +kernel
theorem dX8_on_27 : decode cX8_on 27 = .ok (.bipush 20, 2) := by decide +kernel
theorem dX8_on_29 : decode cX8_on 29 = .ok (.if_icmp .lt 21, 3) := by decide +kernel
theorem dX8_on_32 : decode cX8_on 32 = .ok (.aload_n 0, 1) := by decide +kernel
theorem dX8_on_33 : decode cX8_on 33 = .ok (.getfield 12, 3) := by decide +kernel
theorem dX8_on_36 : decode cX8_on 36 = .ok (.iload_n 2, 1) := by decide +kernel
theorem dX8_on_37 : decode cX8_on 37 = .ok (.bipush 20, 2) := by decide +kernel
theorem dX8_on_39 : decode cX8_on 39 = .ok (.isub, 1) := by decide +kernel
theorem dX8_on_40 : decode cX8_on 40 = .ok (.invokevirtual 93, 3) := by decide +kernel
theorem dX8_on_43 : decode cX8_on 43 = .ok (.ifCond .eq 7, 3) := by decide +kernel
theorem dX8_on_46 : decode cX8_on 46 = .ok (.iconst 1, 1) := by decide +kernel
theorem dX8_on_47 : decode cX8_on 47 = .ok (.goto 4, 3) := by decide +kernel
theorem dX8_on_50 : decode cX8_on 50 = .ok (.iconst 0, 1) := by decide +kernel
theorem dX8_on_51 : decode cX8_on 51 = .ok (.istore 4, 2) := by decide +kernel
theorem dX8_on_53 : decode cX8_on 53 = .ok (.iload_n 3, 1) := by decide +kernel
theorem dX8_on_54 : decode cX8_on 54 = .ok (.ifCond .ne 19, 3) := by decide +kernel
theorem dX8_on_57 : decode cX8_on 57 = .ok (.iload 4, 2) := by decide +kernel
theorem dX8_on_59 : decode cX8_on 59 = .ok (.ifCond .ne 14, 3) := by decide +kernel
theorem dX8_on_62 : decode cX8_on 62 = .ok (.iload_n 2, 1) := by decide +kernel
theorem dX8_on_63 : decode cX8_on 63 = .ok (.ifCond .lt 8, 3) := by decide +kernel
theorem dX8_on_66 : decode cX8_on 66 = .ok (.iload_n 2, 1) := by decide +kernel
theorem dX8_on_67 : decode cX8_on 67 = .ok (.iconst 2, 1) := by decide +kernel
theorem dX8_on_68 : decode cX8_on 68 = .ok (.if_icmp .le 5, 3) := by decide +kernel
theorem dX8_on_71 : decode cX8_on 71 = .ok (.iconst (-1), 1) := by decide +kernel
theorem dX8_on_72 : decode cX8_on 72 = .ok (.ireturn, 1) := by decide +kernel
theorem dX8_on_73 : decode cX8_on 73 = .ok (.iload_n 1, 1) := by decide +kernel
theorem dX8_on_74 : decode cX8_on 74 = .ok (.ifCond .lt 9, 3) := by decide +kernel
theorem dX8_on_77 : decode cX8_on 77 = .ok (.iload_n 1, 1) := by decide +kernel
theorem dX8_on_78 : decode cX8_on 78 = .ok (.bipush 99, 2) := by decide +kernel
theorem dX8_on_80 : decode cX8_on 80 = .ok (.if_icmp .le 6, 3) := by decide +kernel
theorem dX8_on_83 : decode cX8_on 83 = .ok (.bipush (-2), 2) := by decide +kernel
theorem dX8_on_85 : decode cX8_on 85 = .ok (.ireturn, 1) := by decide +kernel
theorem dX8_on_86 : decode cX8_on 86 = .ok (.aload_n 0, 1) := by decide +kernel
theorem dX8_on_87 : decode cX8_on 87 = .ok (.getfield 18, 3) := by decide +kernel
theorem dX8_on_90 : decode cX8_on 90 = .ok (.aload_n 0, 1) := by decide +kernel
theorem dX8_on_91 : decode cX8_on 91 = .ok (.getfield 12, 3) := by decide +kernel
theorem dX8_on_94 : decode cX8_on 94 = .ok (.invokevirtual 210, 3) := by decide +kernel
theorem dX8_on_97 : decode cX8_on 97 = .ok (.aload_n 0, 1) := by decide +kernel
theorem dX8_on_98 : decode cX8_on 98 = .ok (.getfield 18, 3) := by decide +kernel
theorem dX8_on_101 : decode cX8_on 101 = .ok (.iload_n 1, 1) := by decide +kernel
theorem dX8_on_102 : decode cX8_on 102 = .ok (.invokevirtual 207, 3) := by decide +kernel
theorem dX8_on_105 : decode cX8_on 105 = .ok (.iload_n 3, 1) := by decide +kernel
theorem dX8_on_106 : decode cX8_on 106 = .ok (.ifCond .eq 19, 3) := by decide +kernel
theorem dX8_on_109 : decode cX8_on 109 = .ok (.aload_n 0, 1) := by decide +kernel
theorem dX8_on_110 : decode cX8_on 110 = .ok (.getfield 18, 3) := by decide +kernel
theorem dX8_on_113 : decode cX8_on 113 = .ok (.getfield 96, 3) := by decide +kernel
theorem dX8_on_116 : decode cX8_on 116 = .ok (.iload_n 2, 1) := by decide +kernel
theorem dX8_on_117 : decode cX8_on 117 = .ok (.bipush 10, 2) := by decide +kernel
theorem dX8_on_119 : decode cX8_on 119 = .ok (.isub, 1) := by decide +kernel
theorem dX8_on_120 : decode cX8_on 120 = .ok (.aaload, 1) := by decide +kernel
theorem dX8_on_121 : decode cX8_on 121 = .ok (.getfield 108, 3) := by decide +kernel
theorem dX8_on_124 : decode cX8_on 124 = .ok (.ireturn, 1) := by decide +kernel
theorem dX8_on_125 : decode cX8_on 125 = .ok (.iload 4, 2) := by decide +kernel
theorem dX8_on_127 : decode cX8_on 127 = .ok (.ifCond .eq 19, 3) := by decide +kernel
theorem dX8_on_130 : decode cX8_on 130 = .ok (.aload_n 0, 1) := by decide +kernel
theorem dX8_on_131 : decode cX8_on 131 = .ok (.getfield 18, 3) := by decide +kernel
theorem dX8_on_134 : decode cX8_on 134 = .ok (.getfield 96, 3) := by decide +kernel
theorem dX8_on_137 : decode cX8_on 137 = .ok (.iload_n 2, 1) := by decide +kernel
theorem dX8_on_138 : decode cX8_on 138 = .ok (.bipush 20, 2) := by decide +kernel
theorem dX8_on_140 : decode cX8_on 140 = .ok (.isub, 1) := by decide +kernel
theorem dX8_on_141 : decode cX8_on 141 = .ok (.aaload, 1) := by decide +kernel
theorem dX8_on_142 : decode cX8_on 142 = .ok (.getfield 119, 3) := by decide +kernel
theorem dX8_on_145 : decode cX8_on 145 = .ok (.ireturn, 1) := by decide +kernel
theorem dX8_on_146 : decode cX8_on 146 = .ok (.iload_n 2, 1) := by decide +kernel
theorem dX8_on_147 : decode cX8_on 147 = .ok (.ifCond .ne 11, 3) := by decide +kernel
theorem dX8_on_150 : decode cX8_on 150 = .ok (.aload_n 0, 1) := by decide +kernel
theorem dX8_on_151 : decode cX8_on 151 = .ok (.getfield 18, 3) := by decide +kernel
theorem dX8_on_154 : decode cX8_on 154 = .ok (.invokevirtual 203, 3) := by decide +kernel
theorem dX8_on_157 : decode cX8_on 157 = .ok (.ireturn, 1) := by decide +kernel
theorem dX8_on_158 : decode cX8_on 158 = .ok (.iload_n 2, 1) := by decide +kernel
theorem dX8_on_159 : decode cX8_on 159 = .ok (.iconst 1, 1) := by decide +kernel
theorem dX8_on_160 : decode cX8_on 160 = .ok (.if_icmp .ne 13, 3) := by decide +kernel
theorem dX8_on_163 : decode cX8_on 163 = .ok (.aload_n 0, 1) := by decide +kernel
theorem dX8_on_164 : decode cX8_on 164 = .ok (.getfield 18, 3) := by decide +kernel
theorem dX8_on_167 : decode cX8_on 167 = .ok (.getfield 200, 3) := by decide +kernel
end
section
theorem dX8_on_170 : decode cX8_on 170 = .ok (.goto 10, 3) := by decide +kernel
theorem dX8_on_173 : decode cX8_on 173 = .ok (.aload_n 0, 1) := by decide +kernel
theorem dX8_on_174 : decode cX8_on 174 = .ok (.getfield 18, 3) := by decide +kernel
theorem dX8_on_177 : decode cX8_on 177 = .ok (.getfield 194, 3) := by decide +kernel
theorem dX8_on_180 : decode cX8_on 180 = .ok (.ireturn, 1) := by decide +kernel
theorem dX8_clear_0 : decode cX8_clear 0 = .ok (.aload_n 0, 1) := by decide +kernel
theorem dX8_clear_1 : decode cX8_clear 1 = .ok (.getfield 18, 3) := by decide +kernel
theorem dX8_clear_4 : decode cX8_clear 4 = .ok (.aload_n 0, 1) := by decide +kernel
theorem dX8_clear_5 : decode cX8_clear 5 = .ok (.getfield 12, 3) := by decide +kernel
theorem dX8_clear_8 : decode cX8_clear 8 = .ok (.invokevirtual 210, 3) := by decide +kernel
theorem dX8_clear_11 : decode cX8_clear 11 = .ok (.iconst 0, 1) := by decide +kernel
theorem dX8_clear_12 : decode cX8_clear 12 = .ok (.istore_n 1, 1) := by decide +kernel
theorem dX8_clear_13 : decode cX8_clear 13 = .ok (.iload_n 1, 1) := by decide +kernel
theorem dX8_clear_14 : decode cX8_clear 14 = .ok (.bipush 99, 2) := by decide +kernel
theorem dX8_clear_16 : decode cX8_clear 16 = .ok (.if_icmp .gt 28, 3) := by decide +kernel
theorem dX8_clear_19 : decode cX8_clear 19 = .ok (.aload_n 0, 1) := by decide +kernel
theorem dX8_clear_20 : decode cX8_clear 20 = .ok (.getfield 18, 3) := by decide +kernel
theorem dX8_clear_23 : decode cX8_clear 23 = .ok (.invokevirtual 214, 3) := by decide +kernel
theorem dX8_clear_26 : decode cX8_clear 26 = .ok (.ifCond .ne 5, 3) := by decide +kernel
theorem dX8_clear_29 : decode cX8_clear 29 = .ok (.iload_n 1, 1) := by decide +kernel
theorem dX8_clear_30 : decode cX8_clear 30 = .ok (.ireturn, 1) := by decide +kernel
theorem dX8_clear_31 : decode cX8_clear 31 = .ok (.aload_n 0, 1) := by decide +kernel
theorem dX8_clear_32 : decode cX8_clear 32 = .ok (.getfield 18, 3) := by decide +kernel
theorem dX8_clear_35 : decode cX8_clear 35 = .ok (.invokevirtual 217, 3) := by decide +kernel
theorem dX8_clear_38 : decode cX8_clear 38 = .ok (.iinc 1 1, 3) := by decide +kernel
theorem dX8_clear_41 : decode cX8_clear 41 = .ok (.goto (-28), 3) := by decide +kernel
theorem dX8_clear_44 : decode cX8_clear 44 = .ok (.bipush (-5), 2) := by decide +kernel
theorem dX8_clear_46 : decode cX8_clear 46 = .ok (.ireturn, 1) := by decide +kernel
theorem dX8_stay_0 : decode cX8_stay 0 = .ok (.aload_n 0, 1) := by decide +kernel
theorem dX8_stay_1 : decode cX8_stay 1 = .ok (.getfield 18, 3) := by decide +kernel
theorem dX8_stay_4 : decode cX8_stay 4 = .ok (.aload_n 0, 1) := by decide +kernel
theorem dX8_stay_5 : decode cX8_stay 5 = .ok (.getfield 12, 3) := by decide +kernel
theorem dX8_stay_8 : decode cX8_stay 8 = .ok (.invokevirtual 210, 3) := by decide +kernel
theorem dX8_stay_11 : decode cX8_stay 11 = .ok (.aload_n 0, 1) := by decide +kernel
theorem dX8_stay_12 : decode cX8_stay 12 = .ok (.getfield 18, 3) := by decide +kernel
theorem dX8_stay_15 : decode cX8_stay 15 = .ok (.bipush 99, 2) := by decide +kernel
theorem dX8_stay_17 : decode cX8_stay 17 = .ok (.invokevirtual 207, 3) := by decide +kernel
theorem dX8_stay_20 : decode cX8_stay 20 = .ok (.iconst 1, 1) := by decide +kernel
theorem dX8_stay_21 : decode cX8_stay 21 = .ok (.aload_n 0, 1) := by decide +kernel
theorem dX8_stay_22 : decode cX8_stay 22 = .ok (.getfield 18, 3) := by decide +kernel
theorem dX8_stay_25 : decode cX8_stay 25 = .ok (.getfield 86, 3) := by decide +kernel
theorem dX8_stay_28 : decode cX8_stay 28 = .ok (.ishl, 1) := by decide +kernel
theorem dX8_stay_29 : decode cX8_stay 29 = .ok (.iconst 1, 1) := by decide +kernel
theorem dX8_stay_30 : decode cX8_stay 30 = .ok (.isub, 1) := by decide +kernel
theorem dX8_stay_31 : decode cX8_stay 31 = .ok (.istore_n 1, 1) := by decide +kernel
theorem dX8_stay_32 : decode cX8_stay 32 = .ok (.iload_n 1, 1) := by decide +kernel
theorem dX8_stay_33 : decode cX8_stay 33 = .ok (.aload_n 0, 1) := by decide +kernel
theorem dX8_stay_34 : decode cX8_stay 34 = .ok (.getfield 18, 3) := by decide +kernel
theorem dX8_stay_37 : decode cX8_stay 37 = .ok (.invokevirtual 203, 3) := by decide +kernel
theorem dX8_stay_40 : decode cX8_stay 40 = .ok (.iconst (-1), 1) := by decide +kernel
theorem dX8_stay_41 : decode cX8_stay 41 = .ok (.ixor, 1) := by decide +kernel
theorem dX8_stay_42 : decode cX8_stay 42 = .ok (.iand, 1) := by decide +kernel
theorem dX8_stay_43 : decode cX8_stay 43 = .ok (.ireturn, 1) := by decide +kernel
theorem dX8_best_0 : decode cX8_best 0 = .ok (.iload_n 1, 1) := by decide +kernel
theorem dX8_best_1 : decode cX8_best 1 = .ok (.ifCond .lt 8, 3) := by decide +kernel
theorem dX8_best_4 : decode cX8_best 4 = .ok (.iload_n 1, 1) := by decide +kernel
theorem dX8_best_5 : decode cX8_best 5 = .ok (.iconst 5, 1) := by decide +kernel
theorem dX8_best_6 : decode cX8_best 6 = .ok (.if_icmp .le 5, 3) := by decide +kernel
theorem dX8_best_9 : decode cX8_best 9 = .ok (.iconst (-1), 1) := by decide +kernel
theorem dX8_best_10 : decode cX8_best 10 = .ok (.ireturn, 1) := by decide +kernel
theorem dX8_best_11 : decode cX8_best 11 = .ok (.aload_n 0, 1) := by decide +kernel
theorem dX8_best_12 : decode cX8_best 12 = .ok (.getfield 18, 3) := by decide +kernel
theorem dX8_best_15 : decode cX8_best 15 = .ok (.aload_n 0, 1) := by decide +kernel
theorem dX8_best_16 : decode cX8_best 16 = .ok (.getfield 12, 3) := by decide +kernel
theorem dX8_best_19 : decode cX8_best 19 = .ok (.invokevirtual 210, 3) := by decide +kernel
theorem dX8_best_22 : decode cX8_best 22 = .ok (.aload_n 0, 1) := by decide +kernel
theorem dX8_best_23 : decode cX8_best 23 = .ok (.getfield 18, 3) := by decide +kernel
theorem dX8_best_26 : decode cX8_best 26 = .ok (.invokevirtual 220, 3) := by decide +kernel
theorem dX8_best_29 : decode cX8_best 29 = .ok (.istore_n 2, 1) := by decide +kernel
theorem dX8_best_30 : decode cX8_best 30 = .ok (.iload_n 1, 1) := by decide +kernel
theorem dX8_best_31 : decode cX8_best 31 = .ok (.iconst 5, 1) := by decide +kernel
theorem dX8_best_32 : decode cX8_best 32 = .ok (.if_icmp .ne 5, 3) := by decide +kernel
theorem dX8_best_35 : decode cX8_best 35 = .ok (.iload_n 2, 1) := by decide +kernel
theorem dX8_best_36 : decode cX8_best 36 = .ok (.ireturn, 1) := by decide +kernel
theorem dX8_best_37 : decode cX8_best 37 = .ok (.iload_n 1, 1) := by decide +kernel
theorem dX8_best_38 : decode cX8_best 38 = .ok (.iconst 1, 1) := by decide +kernel
theorem dX8_best_39 : decode cX8_best 39 = .ok (.if_icmp .eq 8, 3) := by decide +kernel
theorem dX8_best_42 : decode cX8_best 42 = .ok (.iload_n 1, 1) := by decide +kernel
theorem dX8_best_43 : decode cX8_best 43 = .ok (.iconst 4, 1) := by decide +kernel
theorem dX8_best_44 : decode cX8_best 44 = .ok (.if_icmp .ne 7, 3) := by decide +kernel
theorem dX8_best_47 : decode cX8_best 47 = .ok (.iconst 1, 1) := by decide +kernel
theorem dX8_best_48 : decode cX8_best 48 = .ok (.goto 4, 3) := by decide +kernel
theorem dX8_best_51 : decode cX8_best 51 = .ok (.iconst 0, 1) := by decide +kernel
theorem dX8_best_52 : decode cX8_best 52 = .ok (.istore_n 3, 1) := by decide +kernel
theorem dX8_best_53 : decode cX8_best 53 = .ok (.aload_n 0, 1) := by decide +kernel
theorem dX8_best_54 : decode cX8_best 54 = .ok (.iload_n 1, 1) := by decide +kernel
theorem dX8_best_55 : decode cX8_best 55 = .ok (.iload_n 3, 1) := by decide +kernel
theorem dX8_best_56 : decode cX8_best 56 = .ok (.ifCond .eq 7, 3) := by decide +kernel
theorem dX8_best_59 : decode cX8_best 59 = .ok (.iload_n 2, 1) := by decide +kernel
theorem dX8_best_60 : decode cX8_best 60 = .ok (.goto 5, 3) := by decide +kernel
theorem dX8_best_63 : decode cX8_best 63 = .ok (.bipush 7, 2) := by decide +kernel
theorem dX8_best_65 : decode cX8_best 65 = .ok (.invokevirtual 223, 3) := by decide +kernel
theorem dX8_best_68 : decode cX8_best 68 = .ok (.ireturn, 1) := by decide +kernel
theorem dX8_bestChange_0 : decode cX8_bestChange 0 = .ok (.iload_n 2, 1) := by decide +kernel
theorem dX8_bestChange_1 : decode cX8_bestChange 1 = .ok (.istore_n 3, 1) := by decide +kernel
theorem dX8_bestChange_2 : decode cX8_bestChange 2 = .ok (.bipush (-5), 2) := by decide +kernel
theorem dX8_bestChange_4 : decode cX8_bestChange 4 = .ok (.istore 4, 2) := by decide +kernel
theorem dX8_bestChange_6 : decode cX8_bestChange 6 = .ok (.iconst 0, 1) := by decide +kernel
theorem dX8_bestChange_7 : decode cX8_bestChange 7 = .ok (.istore 5, 2) := by decide +kernel
theorem dX8_bestChange_9 : decode cX8_bestChange 9 = .ok (.iload 5, 2) := by decide +kernel
theorem dX8_bestChange_11 : decode cX8_bestChange 11 = .ok (.bipush 46, 2) := by decide +kernel
theorem dX8_bestChange_13 : decode cX8_bestChange 13 = .ok (.if_icmp .ge 63, 3) := by decide +kernel
theorem dX8_bestChange_16 : decode cX8_bestChange 16 = .ok (.iload_n 3, 1) := by decide +kernel
theorem dX8_bestChange_17 : decode cX8_bestChange 17 = .ok (.ifCond .le 59, 3) := by decide +kernel
theorem dX8_bestChange_20 : decode cX8_bestChange 20 = .ok (.aload_n 0, 1) := by decide +kernel
theorem dX8_bestChange_21 : decode cX8_bestChange 21 = .ok (.iload_n 1, 1) := by decide +kernel
theorem dX8_bestChange_22 : decode cX8_bestChange 22 = .ok (.iload 5, 2) := by decide +kernel
theorem dX8_bestChange_24 : decode cX8_bestChange 24 = .ok (.invokevirtual 227, 3) := by decide +kernel
theorem dX8_bestChange_27 : decode cX8_bestChange 27 = .ok (.ifCond .eq 43, 3) := by decide +kernel
theorem dX8_bestChange_30 : decode cX8_bestChange 30 = .ok (.aload_n 0, 1) := by decide +kernel
theorem dX8_bestChange_31 : decode cX8_bestChange 31 = .ok (.getfield 18, 3) := by decide +kernel
theorem dX8_bestChange_34 : decode cX8_bestChange 34 = .ok (.aload_n 0, 1) := by decide +kernel
theorem dX8_bestChange_35 : decode cX8_bestChange 35 = .ok (.getfield 12, 3) := by decide +kernel
theorem dX8_bestChange_38 : decode cX8_bestChange 38 = .ok (.invokevirtual 210, 3) := by decide +kernel
theorem dX8_bestChange_41 : decode cX8_bestChange 41 = .ok (.aload_n 0, 1) := by decide +kernel
theorem dX8_bestChange_42 : decode cX8_bestChange 42 = .ok (.iload_n 1, 1) := by decide +kernel
theorem dX8_bestChange_43 : decode cX8_bestChange 43 = .ok (.iload 5, 2) := by decide +kernel
theorem dX8_bestChange_45 : decode cX8_bestChange 45 = .ok (.invokevirtual 231, 3) := by decide +kernel
theorem dX8_bestChange_48 : decode cX8_bestChange 48 = .ok (.aload_n 0, 1) := by decide +kernel
theorem dX8_bestChange_49 : decode cX8_bestChange 49 = .ok (.getfield 18, 3) := by decide +kernel
theorem dX8_bestChange_52 : decode cX8_bestChange 52 = .ok (.invokevirtual 220, 3) := by decide +kernel
theorem dX8_bestChange_55 : decode cX8_bestChange 55 = .ok (.istore 6, 2) := by decide +kernel
theorem dX8_bestChange_57 : decode cX8_bestChange 57 = .ok (.iload 6, 2) := by decide +kernel
theorem dX8_bestChange_59 : decode cX8_bestChange 59 = .ok (.iload_n 3, 1) := by decide +kernel
theorem dX8_bestChange_60 : decode cX8_bestChange 60 = .ok (.if_icmp .ge 10, 3) := by decide +kernel
theorem dX8_bestChange_63 : decode cX8_bestChange 63 = .ok (.iload 6, 2) := by decide +kernel
theorem dX8_bestChange_65 : decode cX8_bestChange 65 = .ok (.istore_n 3, 1) := by decide +kernel
theorem dX8_bestChange_66 : decode cX8_bestChange 66 = .ok (.iload 5, 2) := by decide +kernel
theorem dX8_bestChange_68 : decode cX8_bestChange 68 = .ok (.istore 4, 2) := by decide +kernel
theorem dX8_bestChange_70 : decode cX8_bestChange 70 = .ok (.iinc 5 1, 3) := by decide +kernel
theorem dX8_bestChange_73 : decode cX8_bestChange 73 = .ok (.goto (-64), 3) := by decide +kernel
theorem dX8_bestChange_76 : decode cX8_bestChange 76 = .ok (.iload 4, 2) := by decide +kernel
theorem dX8_bestChange_78 : decode cX8_bestChange 78 = .ok (.ireturn, 1) := by decide +kernel
theorem dX8_canChange_0 : decode cX8_canChange 0 = .ok (.iload_n 1, 1) := by decide +kernel
theorem dX8_canChange_1 : decode cX8_canChange 1 = .ok (.tableswitch 108 0 3 #[31, 48, 79, 96], 31) := by decide +kernel
theorem dX8_canChange_32 : decode cX8_canChange 32 = .ok (.iload_n 2, 1) := by decide +kernel
theorem dX8_canChange_33 : decode cX8_canChange 33 = .ok (.aload_n 0, 1) := by decide +kernel
theorem dX8_canChange_34 : decode cX8_canChange 34 = .ok (.getfield 12, 3) := by decide +kernel
theorem dX8_canChange_37 : decode cX8_canChange 37 = .ok (.getfield 159, 3) := by decide +kernel
theorem dX8_canChange_40 : decode cX8_canChange 40 = .ok (.if_icmp .ge 7, 3) := by decide +kernel
theorem dX8_canChange_43 : decode cX8_canChange 43 = .ok (.iconst 1, 1) := by decide +kernel
theorem dX8_canChange_44 : decode cX8_canChange 44 = .ok (.goto 4, 3) := by decide +kernel
theorem dX8_canChange_47 : decode cX8_canChange 47 = .ok (.iconst 0, 1) := by decide +kernel
theorem dX8_canChange_48 : decode cX8_canChange 48 = .ok (.ireturn, 1) := by decide +kernel
theorem dX8_canChange_49 : decode cX8_canChange 49 = .ok (.iload_n 2, 1) := by decide +kernel
theorem dX8_canChange_50 : decode cX8_canChange 50 = .ok (.bipush 10, 2) := by decide +kernel
theorem dX8_canChange_52 : decode cX8_canChange 52 = .ok (.idiv, 1) := by decide +kernel
theorem dX8_canChange_53 : decode cX8_canChange 53 = .ok (.iload_n 2, 1) := by decide +kernel
theorem dX8_canChange_54 : decode cX8_canChange 54 = .ok (.bipush 10, 2) := by decide +kernel
theorem dX8_canChange_56 : decode cX8_canChange 56 = .ok (.irem, 1) := by decide +kernel
theorem dX8_canChange_57 : decode cX8_canChange 57 = .ok (.if_icmp .ge 21, 3) := by decide +kernel
theorem dX8_canChange_60 : decode cX8_canChange 60 = .ok (.iload_n 2, 1) := by decide +kernel
theorem dX8_canChange_61 : decode cX8_canChange 61 = .ok (.bipush 10, 2) := by decide +kernel
theorem dX8_canChange_63 : decode cX8_canChange 63 = .ok (.irem, 1) := by decide +kernel
theorem dX8_canChange_64 : decode cX8_canChange 64 = .ok (.aload_n 0, 1) := by decide +kernel
theorem dX8_canChange_65 : decode cX8_canChange 65 = .ok (.getfield 12, 3) := by decide +kernel
theorem dX8_canChange_68 : decode cX8_canChange 68 = .ok (.getfield 159, 3) := by decide +kernel
theorem dX8_canChange_71 : decode cX8_canChange 71 = .ok (.if_icmp .ge 7, 3) := by decide +kernel
theorem dX8_canChange_74 : decode cX8_canChange 74 = .ok (.iconst 1, 1) := by decide +kernel
theorem dX8_canChange_75 : decode cX8_canChange 75 = .ok (.goto 4, 3) := by decide +kernel
theorem dX8_canChange_78 : decode cX8_canChange 78 = .ok (.iconst 0, 1) := by decide +kernel
theorem dX8_canChange_79 : decode cX8_canChange 79 = .ok (.ireturn, 1) := by decide +kernel
theorem dX8_canChange_80 : decode cX8_canChange 80 = .ok (.iload_n 2, 1) := by decide +kernel
theorem dX8_canChange_81 : decode cX8_canChange 81 = .ok (.iconst 1, 1) := by decide +kernel
theorem dX8_canChange_82 : decode cX8_canChange 82 = .ok (.if_icmp .lt 13, 3) := by decide +kernel
theorem dX8_canChange_85 : decode cX8_canChange 85 = .ok (.iload_n 2, 1) := by decide +kernel
theorem dX8_canChange_86 : decode cX8_canChange 86 = .ok (.bipush 9, 2) := by decide +kernel
theorem dX8_canChange_88 : decode cX8_canChange 88 = .ok (.if_icmp .gt 7, 3) := by decide +kernel
theorem dX8_canChange_91 : decode cX8_canChange 91 = .ok (.iconst 1, 1) := by decide +kernel
theorem dX8_canChange_92 : decode cX8_canChange 92 = .ok (.goto 4, 3) := by decide +kernel
theorem dX8_canChange_95 : decode cX8_canChange 95 = .ok (.iconst 0, 1) := by decide +kernel
theorem dX8_canChange_96 : decode cX8_canChange 96 = .ok (.ireturn, 1) := by decide +kernel
theorem dX8_canChange_97 : decode cX8_canChange 97 = .ok (.iload_n 2, 1) := by decide +kernel
theorem dX8_canChange_98 : decode cX8_canChange 98 = .ok (.bipush 15, 2) := by decide +kernel
theorem dX8_canChange_100 : decode cX8_canChange 100 = .ok (.if_icmp .gt 7, 3) := by decide +kernel
theorem dX8_canChange_103 : decode cX8_canChange 103 = .ok (.iconst 1, 1) := by decide +kernel
theorem dX8_canChange_104 : decode cX8_canChange 104 = .ok (.goto 4, 3) := by decide +kernel
theorem dX8_canChange_107 : decode cX8_canChange 107 = .ok (.iconst 0, 1) := by decide +kernel
theorem dX8_canChange_108 : decode cX8_canChange 108 = .ok (.ireturn, 1) := by decide +kernel
theorem dX8_canChange_109 : decode cX8_canChange 109 = .ok (.iload_n 2, 1) := by decide +kernel
theorem dX8_canChange_110 : decode cX8_canChange 110 = .ok (.aload_n 0, 1) := by decide +kernel
theorem dX8_canChange_111 : decode cX8_canChange 111 = .ok (.getfield 12, 3) := by decide +kernel
theorem dX8_canChange_114 : decode cX8_canChange 114 = .ok (.getfield 75, 3) := by decide +kernel
theorem dX8_canChange_117 : decode cX8_canChange 117 = .ok (.if_icmp .ge 7, 3) := by decide +kernel
theorem dX8_canChange_120 : decode cX8_canChange 120 = .ok (.iconst 1, 1) := by decide +kernel
theorem dX8_canChange_121 : decode cX8_canChange 121 = .ok (.goto 4, 3) := by decide +kernel
theorem dX8_canChange_124 : decode cX8_canChange 124 = .ok (.iconst 0, 1) := by decide +kernel
theorem dX8_canChange_125 : decode cX8_canChange 125 = .ok (.ireturn, 1) := by decide +kernel
theorem dX8_makeChange_0 : decode cX8_makeChange 0 = .ok (.iload_n 1, 1) := by decide +kernel
theorem dX8_makeChange_1 : decode cX8_makeChange 1 = .ok (.tableswitch 82 0 3 #[31, 42, 60, 71], 31) := by decide +kernel
theorem dX8_makeChange_32 : decode cX8_makeChange 32 = .ok (.aload_n 0, 1) := by decide +kernel
theorem dX8_makeChange_33 : decode cX8_makeChange 33 = .ok (.getfield 18, 3) := by decide +kernel
theorem dX8_makeChange_36 : decode cX8_makeChange 36 = .ok (.iload_n 2, 1) := by decide +kernel
theorem dX8_makeChange_37 : decode cX8_makeChange 37 = .ok (.invokevirtual 234, 3) := by decide +kernel
theorem dX8_makeChange_40 : decode cX8_makeChange 40 = .ok (.goto 51, 3) := by decide +kernel
theorem dX8_makeChange_43 : decode cX8_makeChange 43 = .ok (.aload_n 0, 1) := by decide +kernel
theorem dX8_makeChange_44 : decode cX8_makeChange 44 = .ok (.getfield 18, 3) := by decide +kernel
theorem dX8_makeChange_47 : decode cX8_makeChange 47 = .ok (.iload_n 2, 1) := by decide +kernel
theorem dX8_makeChange_48 : decode cX8_makeChange 48 = .ok (.bipush 10, 2) := by decide +kernel
theorem dX8_makeChange_50 : decode cX8_makeChange 50 = .ok (.idiv, 1) := by decide +kernel
theorem dX8_makeChange_51 : decode cX8_makeChange 51 = .ok (.iload_n 2, 1) := by decide +kernel
theorem dX8_makeChange_52 : decode cX8_makeChange 52 = .ok (.bipush 10, 2) := by decide +kernel
theorem dX8_makeChange_54 : decode cX8_makeChange 54 = .ok (.irem, 1) := by decide +kernel
theorem dX8_makeChange_55 : decode cX8_makeChange 55 = .ok (.invokevirtual 237, 3) := by decide +kernel
theorem dX8_makeChange_58 : decode cX8_makeChange 58 = .ok (.goto 33, 3) := by decide +kernel
theorem dX8_makeChange_61 : decode cX8_makeChange 61 = .ok (.aload_n 0, 1) := by decide +kernel
theorem dX8_makeChange_62 : decode cX8_makeChange 62 = .ok (.getfield 18, 3) := by decide +kernel
theorem dX8_makeChange_65 : decode cX8_makeChange 65 = .ok (.iload_n 2, 1) := by decide +kernel
theorem dX8_makeChange_66 : decode cX8_makeChange 66 = .ok (.putfield 240, 3) := by decide +kernel
theorem dX8_makeChange_69 : decode cX8_makeChange 69 = .ok (.goto 22, 3) := by decide +kernel
theorem dX8_makeChange_72 : decode cX8_makeChange 72 = .ok (.aload_n 0, 1) := by decide +kernel
theorem dX8_makeChange_73 : decode cX8_makeChange 73 = .ok (.getfield 18, 3) := by decide +kernel
theorem dX8_makeChange_76 : decode cX8_makeChange 76 = .ok (.iload_n 2, 1) := by decide +kernel
theorem dX8_makeChange_77 : decode cX8_makeChange 77 = .ok (.putfield 243, 3) := by decide +kernel
theorem dX8_makeChange_80 : decode cX8_makeChange 80 = .ok (.goto 11, 3) := by decide +kernel
theorem dX8_makeChange_83 : decode cX8_makeChange 83 = .ok (.aload_n 0, 1) := by decide +kernel
theorem dX8_makeChange_84 : decode cX8_makeChange 84 = .ok (.getfield 18, 3) := by decide +kernel
theorem dX8_makeChange_87 : decode cX8_makeChange 87 = .ok (.iload_n 2, 1) := by decide +kernel
theorem dX8_makeChange_88 : decode cX8_makeChange 88 = .ok (.invokevirtual 246, 3) := by decide +kernel
theorem dX8_makeChange_91 : decode cX8_makeChange 91 = .ok (.return_, 1) := by decide +kernel
theorem dX8_hides_0 : decode cX8_hides 0 = .ok (.aload_n 0, 1) := by decide +kernel
theorem dX8_hides_1 : decode cX8_hides 1 = .ok (.getfield 12, 3) := by decide +kernel
theorem dX8_hides_4 : decode cX8_hides 4 = .ok (.iload_n 1, 1) := by decide +kernel
theorem dX8_hides_5 : decode cX8_hides 5 = .ok (.invokevirtual 93, 3) := by decide +kernel
theorem dX8_hides_8 : decode cX8_hides 8 = .ok (.ifCond .ne 5, 3) := by decide +kernel
theorem dX8_hides_11 : decode cX8_hides 11 = .ok (.iconst (-1), 1) := by decide +kernel
theorem dX8_hides_12 : decode cX8_hides 12 = .ok (.ireturn, 1) := by decide +kernel
theorem dX8_hides_13 : decode cX8_hides 13 = .ok (.iconst 0, 1) := by decide +kernel
theorem dX8_hides_14 : decode cX8_hides 14 = .ok (.istore_n 2, 1) := by decide +kernel
theorem dX8_hides_15 : decode cX8_hides 15 = .ok (.iconst 0, 1) := by decide +kernel
theorem dX8_hides_16 : decode cX8_hides 16 = .ok (.istore_n 3, 1) := by decide +kernel
theorem dX8_hides_17 : decode cX8_hides 17 = .ok (.iload_n 3, 1) := by decide +kernel
theorem dX8_hides_18 : decode cX8_hides 18 = .ok (.bipush 30, 2) := by decide +kernel
theorem dX8_hides_20 : decode cX8_hides 20 = .ok (.if_icmp .ge 67, 3) := by decide +kernel
theorem dX8_hides_23 : decode cX8_hides 23 = .ok (.aload_n 0, 1) := by decide +kernel
theorem dX8_hides_24 : decode cX8_hides 24 = .ok (.getfield 18, 3) := by decide +kernel
theorem dX8_hides_27 : decode cX8_hides 27 = .ok (.aload_n 0, 1) := by decide +kernel
theorem dX8_hides_28 : decode cX8_hides 28 = .ok (.getfield 12, 3) := by decide +kernel
theorem dX8_hides_31 : decode cX8_hides 31 = .ok (.invokevirtual 210, 3) := by decide +kernel
theorem dX8_hides_34 : decode cX8_hides 34 = .ok (.aload_n 0, 1) := by decide +kernel
theorem dX8_hides_35 : decode cX8_hides 35 = .ok (.getfield 18, 3) := by decide +kernel
theorem dX8_hides_38 : decode cX8_hides 38 = .ok (.iload_n 1, 1) := by decide +kernel
theorem dX8_hides_39 : decode cX8_hides 39 = .ok (.invokevirtual 249, 3) := by decide +kernel
theorem dX8_hides_42 : decode cX8_hides 42 = .ok (.aload_n 0, 1) := by decide +kernel
theorem dX8_hides_43 : decode cX8_hides 43 = .ok (.getfield 18, 3) := by decide +kernel
theorem dX8_hides_46 : decode cX8_hides 46 = .ok (.iload_n 1, 1) := by decide +kernel
theorem dX8_hides_47 : decode cX8_hides 47 = .ok (.iload_n 3, 1) := by decide +kernel
theorem dX8_hides_48 : decode cX8_hides 48 = .ok (.invokevirtual 138, 3) := by decide +kernel
theorem dX8_hides_51 : decode cX8_hides 51 = .ok (.aload_n 0, 1) := by decide +kernel
theorem dX8_hides_52 : decode cX8_hides 52 = .ok (.getfield 18, 3) := by decide +kernel
theorem dX8_hides_55 : decode cX8_hides 55 = .ok (.bipush 30, 2) := by decide +kernel
theorem dX8_hides_57 : decode cX8_hides 57 = .ok (.invokevirtual 207, 3) := by decide +kernel
theorem dX8_hides_60 : decode cX8_hides 60 = .ok (.aload_n 0, 1) := by decide +kernel
theorem dX8_hides_61 : decode cX8_hides 61 = .ok (.getfield 18, 3) := by decide +kernel
theorem dX8_hides_64 : decode cX8_hides 64 = .ok (.getfield 96, 3) := by decide +kernel
theorem dX8_hides_67 : decode cX8_hides 67 = .ok (.iload_n 1, 1) := by decide +kernel
theorem dX8_hides_68 : decode cX8_hides 68 = .ok (.aaload, 1) := by decide +kernel
theorem dX8_hides_69 : decode cX8_hides 69 = .ok (.getfield 122, 3) := by decide +kernel
theorem dX8_hides_72 : decode cX8_hides 72 = .ok (.ifCond .ne 9, 3) := by decide +kernel
theorem dX8_hides_75 : decode cX8_hides 75 = .ok (.iload_n 2, 1) := by decide +kernel
theorem dX8_hides_76 : decode cX8_hides 76 = .ok (.iconst 1, 1) := by decide +kernel
theorem dX8_hides_77 : decode cX8_hides 77 = .ok (.iload_n 3, 1) := by decide +kernel
theorem dX8_hides_78 : decode cX8_hides 78 = .ok (.ishl, 1) := by decide +kernel
theorem dX8_hides_79 : decode cX8_hides 79 = .ok (.ior, 1) := by decide +kernel
theorem dX8_hides_80 : decode cX8_hides 80 = .ok (.istore_n 2, 1) := by decide +kernel
theorem dX8_hides_81 : decode cX8_hides 81 = .ok (.iinc 3 1, 3) := by decide +kernel
theorem dX8_hides_84 : decode cX8_hides 84 = .ok (.goto (-67), 3) := by decide +kernel
theorem dX8_hides_87 : decode cX8_hides 87 = .ok (.iload_n 2, 1) := by decide +kernel
theorem dX8_hides_88 : decode cX8_hides 88 = .ok (.ireturn, 1) := by decide +kernel
theorem dX8_see_0 : decode cX8_see 0 = .ok (.iload_n 1, 1) := by decide +kernel
theorem dX8_see_1 : decode cX8_see 1 = .ok (.iconst (-1), 1) := by decide +kernel
theorem dX8_see_2 : decode cX8_see 2 = .ok (.if_icmp .ne 13, 3) := by decide +kernel
theorem dX8_see_5 : decode cX8_see 5 = .ok (.aload_n 0, 1) := by decide +kernel
theorem dX8_see_6 : decode cX8_see 6 = .ok (.getfield 26, 3) := by decide +kernel
theorem dX8_see_9 : decode cX8_see 9 = .ok (.iconst 0, 1) := by decide +kernel
theorem dX8_see_10 : decode cX8_see 10 = .ok (.putfield 252, 3) := by decide +kernel
theorem dX8_see_13 : decode cX8_see 13 = .ok (.iconst 0, 1) := by decide +kernel
theorem dX8_see_14 : decode cX8_see 14 = .ok (.ireturn, 1) := by decide +kernel
theorem dX8_see_15 : decode cX8_see 15 = .ok (.aload_n 0, 1) := by decide +kernel
theorem dX8_see_16 : decode cX8_see 16 = .ok (.getfield 12, 3) := by decide +kernel
theorem dX8_see_19 : decode cX8_see 19 = .ok (.iload_n 1, 1) := by decide +kernel
theorem dX8_see_20 : decode cX8_see 20 = .ok (.invokevirtual 93, 3) := by decide +kernel
theorem dX8_see_23 : decode cX8_see 23 = .ok (.ifCond .ne 5, 3) := by decide +kernel
theorem dX8_see_26 : decode cX8_see 26 = .ok (.iconst (-1), 1) := by decide +kernel
theorem dX8_see_27 : decode cX8_see 27 = .ok (.ireturn, 1) := by decide +kernel
theorem dX8_see_28 : decode cX8_see 28 = .ok (.iload_n 3, 1) := by decide +kernel
theorem dX8_see_29 : decode cX8_see 29 = .ok (.ifCond .lt 9, 3) := by decide +kernel
theorem dX8_see_32 : decode cX8_see 32 = .ok (.iload_n 3, 1) := by decide +kernel
theorem dX8_see_33 : decode cX8_see 33 = .ok (.bipush 20, 2) := by decide +kernel
theorem dX8_see_35 : decode cX8_see 35 = .ok (.if_icmp .le 6, 3) := by decide +kernel
theorem dX8_see_38 : decode cX8_see 38 = .ok (.bipush (-2), 2) := by decide +kernel
theorem dX8_see_40 : decode cX8_see 40 = .ok (.ireturn, 1) := by decide +kernel
theorem dX8_see_41 : decode cX8_see 41 = .ok (.aload_n 0, 1) := by decide +kernel
theorem dX8_see_42 : decode cX8_see 42 = .ok (.getfield 26, 3) := by decide +kernel
theorem dX8_see_45 : decode cX8_see 45 = .ok (.invokevirtual 255, 3) := by decide +kernel
theorem dX8_see_48 : decode cX8_see 48 = .ok (.ifCond .eq 8, 3) := by decide +kernel
theorem dX8_see_51 : decode cX8_see 51 = .ok (.bipush (-4), 2) := by decide +kernel
theorem dX8_see_53 : decode cX8_see 53 = .ok (.goto 16, 3) := by decide +kernel
theorem dX8_see_56 : decode cX8_see 56 = .ok (.aload_n 0, 1) := by decide +kernel
theorem dX8_see_57 : decode cX8_see 57 = .ok (.getfield 26, 3) := by decide +kernel
theorem dX8_see_60 : decode cX8_see 60 = .ok (.iload_n 1, 1) := by decide +kernel
theorem dX8_see_61 : decode cX8_see 61 = .ok (.iload_n 2, 1) := by decide +kernel
theorem dX8_see_62 : decode cX8_see 62 = .ok (.invokestatic 115, 3) := by decide +kernel
theorem dX8_see_65 : decode cX8_see 65 = .ok (.iload_n 3, 1) := by decide +kernel
theorem dX8_see_66 : decode cX8_see 66 = .ok (.invokevirtual 259, 3) := by decide +kernel
theorem dX8_see_69 : decode cX8_see 69 = .ok (.ireturn, 1) := by decide +kernel
theorem dX8_where_0 : decode cX8_where 0 = .ok (.aload_n 0, 1) := by decide +kernel
theorem dX8_where_1 : decode cX8_where 1 = .ok (.getfield 12, 3) := by decide +kernel
theorem dX8_where_4 : decode cX8_where 4 = .ok (.iload_n 1, 1) := by decide +kernel
theorem dX8_where_5 : decode cX8_where 5 = .ok (.invokevirtual 93, 3) := by decide +kernel
theorem dX8_where_8 : decode cX8_where 8 = .ok (.ifCond .eq 10, 3) := by decide +kernel
theorem dX8_where_11 : decode cX8_where 11 = .ok (.iload_n 2, 1) := by decide +kernel
theorem dX8_where_12 : decode cX8_where 12 = .ok (.invokestatic 262, 3) := by decide +kernel
theorem dX8_where_15 : decode cX8_where 15 = .ok (.ifCond .ne 5, 3) := by decide +kernel
theorem dX8_where_18 : decode cX8_where 18 = .ok (.iconst (-1), 1) := by decide +kernel
theorem dX8_where_19 : decode cX8_where 19 = .ok (.ireturn, 1) := by decide +kernel
theorem dX8_where_20 : decode cX8_where 20 = .ok (.iconst 0, 1) := by decide +kernel
theorem dX8_where_21 : decode cX8_where 21 = .ok (.istore_n 3, 1) := by decide +kernel
theorem dX8_where_22 : decode cX8_where 22 = .ok (.iconst 0, 1) := by decide +kernel
theorem dX8_where_23 : decode cX8_where 23 = .ok (.istore 4, 2) := by decide +kernel
theorem dX8_where_25 : decode cX8_where 25 = .ok (.iload 4, 2) := by decide +kernel
theorem dX8_where_27 : decode cX8_where 27 = .ok (.bipush 30, 2) := by decide +kernel
theorem dX8_where_29 : decode cX8_where 29 = .ok (.if_icmp .ge 44, 3) := by decide +kernel
theorem dX8_where_32 : decode cX8_where 32 = .ok (.aload_n 0, 1) := by decide +kernel
theorem dX8_where_33 : decode cX8_where 33 = .ok (.getfield 18, 3) := by decide +kernel
theorem dX8_where_36 : decode cX8_where 36 = .ok (.aload_n 0, 1) := by decide +kernel
theorem dX8_where_37 : decode cX8_where 37 = .ok (.getfield 12, 3) := by decide +kernel
theorem dX8_where_40 : decode cX8_where 40 = .ok (.invokevirtual 210, 3) := by decide +kernel
theorem dX8_where_43 : decode cX8_where 43 = .ok (.aload_n 0, 1) := by decide +kernel
theorem dX8_where_44 : decode cX8_where 44 = .ok (.getfield 18, 3) := by decide +kernel
theorem dX8_where_47 : decode cX8_where 47 = .ok (.iload_n 1, 1) := by decide +kernel
theorem dX8_where_48 : decode cX8_where 48 = .ok (.iload 4, 2) := by decide +kernel
theorem dX8_where_50 : decode cX8_where 50 = .ok (.invokevirtual 138, 3) := by decide +kernel
theorem dX8_where_53 : decode cX8_where 53 = .ok (.aload_n 0, 1) := by decide +kernel
theorem dX8_where_54 : decode cX8_where 54 = .ok (.invokevirtual 265, 3) := by decide +kernel
theorem dX8_where_57 : decode cX8_where 57 = .ok (.ifCond .eq 10, 3) := by decide +kernel
theorem dX8_where_60 : decode cX8_where 60 = .ok (.iload_n 3, 1) := by decide +kernel
theorem dX8_where_61 : decode cX8_where 61 = .ok (.iconst 1, 1) := by decide +kernel
theorem dX8_where_62 : decode cX8_where 62 = .ok (.iload 4, 2) := by decide +kernel
theorem dX8_where_64 : decode cX8_where 64 = .ok (.ishl, 1) := by decide +kernel
theorem dX8_where_65 : decode cX8_where 65 = .ok (.ior, 1) := by decide +kernel
theorem dX8_where_66 : decode cX8_where 66 = .ok (.istore_n 3, 1) := by decide +kernel
theorem dX8_where_67 : decode cX8_where 67 = .ok (.iinc 4 1, 3) := by decide +kernel
theorem dX8_where_70 : decode cX8_where 70 = .ok (.goto (-45), 3) := by decide +kernel
theorem dX8_where_73 : decode cX8_where 73 = .ok (.iload_n 2, 1) := by decide +kernel
theorem dX8_where_74 : decode cX8_where 74 = .ok (.ifCond .ne 10, 3) := by decide +kernel
theorem dX8_where_77 : decode cX8_where 77 = .ok (.iload_n 3, 1) := by decide +kernel
theorem dX8_where_78 : decode cX8_where 78 = .ok (.invokestatic 268, 3) := by decide +kernel
theorem dX8_where_81 : decode cX8_where 81 = .ok (.goto 7, 3) := by decide +kernel
theorem dX8_where_84 : decode cX8_where 84 = .ok (.iload_n 3, 1) := by decide +kernel
theorem dX8_where_85 : decode cX8_where 85 = .ok (.invokestatic 273, 3) := by decide +kernel
theorem dX8_where_88 : decode cX8_where 88 = .ok (.ireturn, 1) := by decide +kernel
theorem dX8_can_0 : decode cX8_can 0 = .ok (.aload_n 0, 1) := by decide +kernel
theorem dX8_can_1 : decode cX8_can 1 = .ok (.getfield 12, 3) := by decide +kernel
theorem dX8_can_4 : decode cX8_can 4 = .ok (.iload_n 1, 1) := by decide +kernel
theorem dX8_can_5 : decode cX8_can 5 = .ok (.invokevirtual 93, 3) := by decide +kernel
theorem dX8_can_8 : decode cX8_can 8 = .ok (.ifCond .eq 10, 3) := by decide +kernel
theorem dX8_can_11 : decode cX8_can 11 = .ok (.iload_n 2, 1) := by decide +kernel
theorem dX8_can_12 : decode cX8_can 12 = .ok (.invokestatic 262, 3) := by decide +kernel
theorem dX8_can_15 : decode cX8_can 15 = .ok (.ifCond .ne 5, 3) := by decide +kernel
theorem dX8_can_18 : decode cX8_can 18 = .ok (.iconst (-1), 1) := by decide +kernel
theorem dX8_can_19 : decode cX8_can 19 = .ok (.ireturn, 1) := by decide +kernel
theorem dX8_can_20 : decode cX8_can 20 = .ok (.iconst 0, 1) := by decide +kernel
theorem dX8_can_21 : decode cX8_can 21 = .ok (.istore_n 3, 1) := by decide +kernel
theorem dX8_can_22 : decode cX8_can 22 = .ok (.iconst 0, 1) := by decide +kernel
theorem dX8_can_23 : decode cX8_can 23 = .ok (.istore 4, 2) := by decide +kernel
theorem dX8_can_25 : decode cX8_can 25 = .ok (.iload 4, 2) := by decide +kernel
theorem dX8_can_27 : decode cX8_can 27 = .ok (.bipush 10, 2) := by decide +kernel
theorem dX8_can_29 : decode cX8_can 29 = .ok (.if_icmp .ge 48, 3) := by decide +kernel
theorem dX8_can_32 : decode cX8_can 32 = .ok (.aload_n 0, 1) := by decide +kernel
theorem dX8_can_33 : decode cX8_can 33 = .ok (.getfield 18, 3) := by decide +kernel
theorem dX8_can_36 : decode cX8_can 36 = .ok (.aload_n 0, 1) := by decide +kernel
theorem dX8_can_37 : decode cX8_can 37 = .ok (.getfield 12, 3) := by decide +kernel
theorem dX8_can_40 : decode cX8_can 40 = .ok (.invokevirtual 210, 3) := by decide +kernel
theorem dX8_can_43 : decode cX8_can 43 = .ok (.aload_n 0, 1) := by decide +kernel
theorem dX8_can_44 : decode cX8_can 44 = .ok (.getfield 18, 3) := by decide +kernel
theorem dX8_can_47 : decode cX8_can 47 = .ok (.getfield 96, 3) := by decide +kernel
theorem dX8_can_50 : decode cX8_can 50 = .ok (.iload_n 1, 1) := by decide +kernel
theorem dX8_can_51 : decode cX8_can 51 = .ok (.aaload, 1) := by decide +kernel
theorem dX8_can_52 : decode cX8_can 52 = .ok (.iload 4, 2) := by decide +kernel
theorem dX8_can_54 : decode cX8_can 54 = .ok (.putfield 105, 3) := by decide +kernel
theorem dX8_can_57 : decode cX8_can 57 = .ok (.aload_n 0, 1) := by decide +kernel
theorem dX8_can_58 : decode cX8_can 58 = .ok (.invokevirtual 265, 3) := by decide +kernel
theorem dX8_can_61 : decode cX8_can 61 = .ok (.ifCond .eq 10, 3) := by decide +kernel
theorem dX8_can_64 : decode cX8_can 64 = .ok (.iload_n 3, 1) := by decide +kernel
theorem dX8_can_65 : decode cX8_can 65 = .ok (.iconst 1, 1) := by decide +kernel
theorem dX8_can_66 : decode cX8_can 66 = .ok (.iload 4, 2) := by decide +kernel
theorem dX8_can_68 : decode cX8_can 68 = .ok (.ishl, 1) := by decide +kernel
theorem dX8_can_69 : decode cX8_can 69 = .ok (.ior, 1) := by decide +kernel
theorem dX8_can_70 : decode cX8_can 70 = .ok (.istore_n 3, 1) := by decide +kernel
theorem dX8_can_71 : decode cX8_can 71 = .ok (.iinc 4 1, 3) := by decide +kernel
theorem dX8_can_74 : decode cX8_can 74 = .ok (.goto (-49), 3) := by decide +kernel
theorem dX8_can_77 : decode cX8_can 77 = .ok (.iload_n 2, 1) := by decide +kernel
theorem dX8_can_78 : decode cX8_can 78 = .ok (.ifCond .ne 10, 3) := by decide +kernel
theorem dX8_can_81 : decode cX8_can 81 = .ok (.iload_n 3, 1) := by decide +kernel
theorem dX8_can_82 : decode cX8_can 82 = .ok (.invokestatic 268, 3) := by decide +kernel
theorem dX8_can_85 : decode cX8_can 85 = .ok (.goto 7, 3) := by decide +kernel
theorem dX8_can_88 : decode cX8_can 88 = .ok (.iload_n 3, 1) := by decide +kernel
theorem dX8_can_89 : decode cX8_can 89 = .ok (.invokestatic 273, 3) := by decide +kernel
theorem dX8_can_92 : decode cX8_can 92 = .ok (.ireturn, 1) := by decide +kernel
theorem dX8_trialIsAsSeen_0 : decode cX8_trialIsAsSeen 0 = .ok (.iconst 0, 1) := by decide +kernel
theorem dX8_trialIsAsSeen_1 : decode cX8_trialIsAsSeen 1 = .ok (.istore_n 1, 1) := by decide +kernel
theorem dX8_trialIsAsSeen_2 : decode cX8_trialIsAsSeen 2 = .ok (.iconst 0, 1) := by decide +kernel
theorem dX8_trialIsAsSeen_3 : decode cX8_trialIsAsSeen 3 = .ok (.istore_n 2, 1) := by decide +kernel
theorem dX8_trialIsAsSeen_4 : decode cX8_trialIsAsSeen 4 = .ok (.iload_n 2, 1) := by decide +kernel
theorem dX8_trialIsAsSeen_5 : decode cX8_trialIsAsSeen 5 = .ok (.aload_n 0, 1) := by decide +kernel
theorem dX8_trialIsAsSeen_6 : decode cX8_trialIsAsSeen 6 = .ok (.getfield 26, 3) := by decide +kernel
theorem dX8_trialIsAsSeen_9 : decode cX8_trialIsAsSeen 9 = .ok (.getfield 252, 3) := by decide +kernel
theorem dX8_trialIsAsSeen_12 : decode cX8_trialIsAsSeen 12 = .ok (.if_icmp .ge 23, 3) := by decide +kernel
theorem dX8_trialIsAsSeen_15 : decode cX8_trialIsAsSeen 15 = .ok (.iload_n 1, 1) := by decide +kernel
theorem dX8_trialIsAsSeen_16 : decode cX8_trialIsAsSeen 16 = .ok (.aload_n 0, 1) := by decide +kernel
theorem dX8_trialIsAsSeen_17 : decode cX8_trialIsAsSeen 17 = .ok (.getfield 26, 3) := by decide +kernel
theorem dX8_trialIsAsSeen_20 : decode cX8_trialIsAsSeen 20 = .ok (.getfield 276, 3) := by decide +kernel
theorem dX8_trialIsAsSeen_23 : decode cX8_trialIsAsSeen 23 = .ok (.iload_n 2, 1) := by decide +kernel
theorem dX8_trialIsAsSeen_24 : decode cX8_trialIsAsSeen 24 = .ok (.iaload, 1) := by decide +kernel
theorem dX8_trialIsAsSeen_25 : decode cX8_trialIsAsSeen 25 = .ok (.invokestatic 279, 3) := by decide +kernel
theorem dX8_trialIsAsSeen_28 : decode cX8_trialIsAsSeen 28 = .ok (.istore_n 1, 1) := by decide +kernel
theorem dX8_trialIsAsSeen_29 : decode cX8_trialIsAsSeen 29 = .ok (.iinc 2 1, 3) := by decide +kernel
theorem dX8_trialIsAsSeen_32 : decode cX8_trialIsAsSeen 32 = .ok (.goto (-28), 3) := by decide +kernel
theorem dX8_trialIsAsSeen_35 : decode cX8_trialIsAsSeen 35 = .ok (.iconst 0, 1) := by decide +kernel
theorem dX8_trialIsAsSeen_36 : decode cX8_trialIsAsSeen 36 = .ok (.istore_n 2, 1) := by decide +kernel
theorem dX8_trialIsAsSeen_37 : decode cX8_trialIsAsSeen 37 = .ok (.iload_n 2, 1) := by decide +kernel
theorem dX8_trialIsAsSeen_38 : decode cX8_trialIsAsSeen 38 = .ok (.iload_n 1, 1) := by decide +kernel
theorem dX8_trialIsAsSeen_39 : decode cX8_trialIsAsSeen 39 = .ok (.if_icmp .gt 85, 3) := by decide +kernel
theorem dX8_trialIsAsSeen_42 : decode cX8_trialIsAsSeen 42 = .ok (.iconst 0, 1) := by decide +kernel
theorem dX8_trialIsAsSeen_43 : decode cX8_trialIsAsSeen 43 = .ok (.istore_n 3, 1) := by decide +kernel
theorem dX8_trialIsAsSeen_44 : decode cX8_trialIsAsSeen 44 = .ok (.iload_n 3, 1) := by decide +kernel
theorem dX8_trialIsAsSeen_45 : decode cX8_trialIsAsSeen 45 = .ok (.aload_n 0, 1) := by decide +kernel
theorem dX8_trialIsAsSeen_46 : decode cX8_trialIsAsSeen 46 = .ok (.getfield 26, 3) := by decide +kernel
theorem dX8_trialIsAsSeen_49 : decode cX8_trialIsAsSeen 49 = .ok (.getfield 252, 3) := by decide +kernel
theorem dX8_trialIsAsSeen_52 : decode cX8_trialIsAsSeen 52 = .ok (.if_icmp .ge 59, 3) := by decide +kernel
theorem dX8_trialIsAsSeen_55 : decode cX8_trialIsAsSeen 55 = .ok (.aload_n 0, 1) := by decide +kernel
theorem dX8_trialIsAsSeen_56 : decode cX8_trialIsAsSeen 56 = .ok (.getfield 26, 3) := by decide +kernel
theorem dX8_trialIsAsSeen_59 : decode cX8_trialIsAsSeen 59 = .ok (.getfield 276, 3) := by decide +kernel
theorem dX8_trialIsAsSeen_62 : decode cX8_trialIsAsSeen 62 = .ok (.iload_n 3, 1) := by decide +kernel
theorem dX8_trialIsAsSeen_63 : decode cX8_trialIsAsSeen 63 = .ok (.iaload, 1) := by decide +kernel
theorem dX8_trialIsAsSeen_64 : decode cX8_trialIsAsSeen 64 = .ok (.iload_n 2, 1) := by decide +kernel
theorem dX8_trialIsAsSeen_65 : decode cX8_trialIsAsSeen 65 = .ok (.if_icmp .ne 40, 3) := by decide +kernel
theorem dX8_trialIsAsSeen_68 : decode cX8_trialIsAsSeen 68 = .ok (.aload_n 0, 1) := by decide +kernel
theorem dX8_trialIsAsSeen_69 : decode cX8_trialIsAsSeen 69 = .ok (.getfield 18, 3) := by decide +kernel
theorem dX8_trialIsAsSeen_72 : decode cX8_trialIsAsSeen 72 = .ok (.getfield 96, 3) := by decide +kernel
theorem dX8_trialIsAsSeen_75 : decode cX8_trialIsAsSeen 75 = .ok (.aload_n 0, 1) := by decide +kernel
theorem dX8_trialIsAsSeen_76 : decode cX8_trialIsAsSeen 76 = .ok (.getfield 26, 3) := by decide +kernel
theorem dX8_trialIsAsSeen_79 : decode cX8_trialIsAsSeen 79 = .ok (.getfield 284, 3) := by decide +kernel
theorem dX8_trialIsAsSeen_82 : decode cX8_trialIsAsSeen 82 = .ok (.iload_n 3, 1) := by decide +kernel
theorem dX8_trialIsAsSeen_83 : decode cX8_trialIsAsSeen 83 = .ok (.iaload, 1) := by decide +kernel
theorem dX8_trialIsAsSeen_84 : decode cX8_trialIsAsSeen 84 = .ok (.aaload, 1) := by decide +kernel
theorem dX8_trialIsAsSeen_85 : decode cX8_trialIsAsSeen 85 = .ok (.getfield 122, 3) := by decide +kernel
theorem dX8_trialIsAsSeen_88 : decode cX8_trialIsAsSeen 88 = .ok (.invokestatic 115, 3) := by decide +kernel
theorem dX8_trialIsAsSeen_91 : decode cX8_trialIsAsSeen 91 = .ok (.aload_n 0, 1) := by decide +kernel
theorem dX8_trialIsAsSeen_92 : decode cX8_trialIsAsSeen 92 = .ok (.getfield 26, 3) := by decide +kernel
theorem dX8_trialIsAsSeen_95 : decode cX8_trialIsAsSeen 95 = .ok (.getfield 287, 3) := by decide +kernel
theorem dX8_trialIsAsSeen_98 : decode cX8_trialIsAsSeen 98 = .ok (.iload_n 3, 1) := by decide +kernel
theorem dX8_trialIsAsSeen_99 : decode cX8_trialIsAsSeen 99 = .ok (.iaload, 1) := by decide +kernel
theorem dX8_trialIsAsSeen_100 : decode cX8_trialIsAsSeen 100 = .ok (.if_icmp .eq 5, 3) := by decide +kernel
theorem dX8_trialIsAsSeen_103 : decode cX8_trialIsAsSeen 103 = .ok (.iconst 0, 1) := by decide +kernel
theorem dX8_trialIsAsSeen_104 : decode cX8_trialIsAsSeen 104 = .ok (.ireturn, 1) := by decide +kernel
theorem dX8_trialIsAsSeen_105 : decode cX8_trialIsAsSeen 105 = .ok (.iinc 3 1, 3) := by decide +kernel
theorem dX8_trialIsAsSeen_108 : decode cX8_trialIsAsSeen 108 = .ok (.goto (-64), 3) := by decide +kernel
theorem dX8_trialIsAsSeen_111 : decode cX8_trialIsAsSeen 111 = .ok (.aload_n 0, 1) := by decide +kernel
theorem dX8_trialIsAsSeen_112 : decode cX8_trialIsAsSeen 112 = .ok (.getfield 18, 3) := by decide +kernel
theorem dX8_trialIsAsSeen_115 : decode cX8_trialIsAsSeen 115 = .ok (.invokevirtual 217, 3) := by decide +kernel
theorem dX8_trialIsAsSeen_118 : decode cX8_trialIsAsSeen 118 = .ok (.iinc 2 1, 3) := by decide +kernel
theorem dX8_trialIsAsSeen_121 : decode cX8_trialIsAsSeen 121 = .ok (.goto (-84), 3) := by decide +kernel
theorem dX8_trialIsAsSeen_124 : decode cX8_trialIsAsSeen 124 = .ok (.iconst 1, 1) := by decide +kernel
theorem dX8_trialIsAsSeen_125 : decode cX8_trialIsAsSeen 125 = .ok (.ireturn, 1) := by decide +kernel
theorem dX8_leastOf_0 : decode cX8_leastOf 0 = .ok (.iload_n 0, 1) := by decide +kernel
theorem dX8_leastOf_1 : decode cX8_leastOf 1 = .ok (.ifCond .ne 8, 3) := by decide +kernel
theorem dX8_leastOf_4 : decode cX8_leastOf 4 = .ok (.bipush (-5), 2) := by decide +kernel
theorem dX8_leastOf_6 : decode cX8_leastOf 6 = .ok (.goto 7, 3) := by decide +kernel
theorem dX8_leastOf_9 : decode cX8_leastOf 9 = .ok (.iload_n 0, 1) := by decide +kernel
theorem dX8_leastOf_10 : decode cX8_leastOf 10 = .ok (.invokestatic 290, 3) := by decide +kernel
theorem dX8_leastOf_13 : decode cX8_leastOf 13 = .ok (.ireturn, 1) := by decide +kernel
theorem dX8_odds_0 : decode cX8_odds 0 = .ok (.iload_n 1, 1) := by decide +kernel
theorem dX8_odds_1 : decode cX8_odds 1 = .ok (.ifCond .lt 26, 3) := by decide +kernel
theorem dX8_odds_4 : decode cX8_odds 4 = .ok (.iload_n 1, 1) := by decide +kernel
theorem dX8_odds_5 : decode cX8_odds 5 = .ok (.bipush 99, 2) := by decide +kernel
theorem dX8_odds_7 : decode cX8_odds 7 = .ok (.if_icmp .gt 20, 3) := by decide +kernel
theorem dX8_odds_10 : decode cX8_odds 10 = .ok (.iload_n 2, 1) := by decide +kernel
theorem dX8_odds_11 : decode cX8_odds 11 = .ok (.invokestatic 262, 3) := by decide +kernel
theorem dX8_odds_14 : decode cX8_odds 14 = .ok (.ifCond .eq 13, 3) := by decide +kernel
theorem dX8_odds_17 : decode cX8_odds 17 = .ok (.aload_n 0, 1) := by decide +kernel
theorem dX8_odds_18 : decode cX8_odds 18 = .ok (.getfield 12, 3) := by decide +kernel
theorem dX8_odds_21 : decode cX8_odds 21 = .ok (.getfield 86, 3) := by decide +kernel
theorem dX8_odds_24 : decode cX8_odds 24 = .ok (.ifCond .ne 7, 3) := by decide +kernel
theorem dX8_odds_27 : decode cX8_odds 27 = .ok (.ldc2_w 293, 3) := by decide +kernel
theorem dX8_odds_30 : decode cX8_odds 30 = .ok (.lreturn, 1) := by decide +kernel
theorem dX8_odds_31 : decode cX8_odds 31 = .ok (.iconst 0, 1) := by decide +kernel
theorem dX8_odds_32 : decode cX8_odds 32 = .ok (.istore_n 3, 1) := by decide +kernel
theorem dX8_odds_33 : decode cX8_odds 33 = .ok (.iconst 0, 1) := by decide +kernel
theorem dX8_odds_34 : decode cX8_odds 34 = .ok (.istore 4, 2) := by decide +kernel
theorem dX8_odds_36 : decode cX8_odds 36 = .ok (.iload 4, 2) := by decide +kernel
theorem dX8_odds_38 : decode cX8_odds 38 = .ok (.aload_n 0, 1) := by decide +kernel
theorem dX8_odds_39 : decode cX8_odds 39 = .ok (.getfield 12, 3) := by decide +kernel
theorem dX8_odds_42 : decode cX8_odds 42 = .ok (.getfield 86, 3) := by decide +kernel
theorem dX8_odds_45 : decode cX8_odds 45 = .ok (.if_icmp .ge 55, 3) := by decide +kernel
theorem dX8_odds_48 : decode cX8_odds 48 = .ok (.aload_n 0, 1) := by decide +kernel
theorem dX8_odds_49 : decode cX8_odds 49 = .ok (.getfield 18, 3) := by decide +kernel
theorem dX8_odds_52 : decode cX8_odds 52 = .ok (.aload_n 0, 1) := by decide +kernel
theorem dX8_odds_53 : decode cX8_odds 53 = .ok (.getfield 12, 3) := by decide +kernel
theorem dX8_odds_56 : decode cX8_odds 56 = .ok (.invokevirtual 210, 3) := by decide +kernel
theorem dX8_odds_59 : decode cX8_odds 59 = .ok (.aload_n 0, 1) := by decide +kernel
theorem dX8_odds_60 : decode cX8_odds 60 = .ok (.getfield 18, 3) := by decide +kernel
theorem dX8_odds_63 : decode cX8_odds 63 = .ok (.getfield 96, 3) := by decide +kernel
theorem dX8_odds_66 : decode cX8_odds 66 = .ok (.iload 4, 2) := by decide +kernel
theorem dX8_odds_68 : decode cX8_odds 68 = .ok (.aaload, 1) := by decide +kernel
theorem dX8_odds_69 : decode cX8_odds 69 = .ok (.iconst 1, 1) := by decide +kernel
theorem dX8_odds_70 : decode cX8_odds 70 = .ok (.putfield 111, 3) := by decide +kernel
theorem dX8_odds_73 : decode cX8_odds 73 = .ok (.aload_n 0, 1) := by decide +kernel
theorem dX8_odds_74 : decode cX8_odds 74 = .ok (.getfield 18, 3) := by decide +kernel
theorem dX8_odds_77 : decode cX8_odds 77 = .ok (.iload_n 1, 1) := by decide +kernel
theorem dX8_odds_78 : decode cX8_odds 78 = .ok (.invokevirtual 207, 3) := by decide +kernel
theorem dX8_odds_81 : decode cX8_odds 81 = .ok (.aload_n 0, 1) := by decide +kernel
theorem dX8_odds_82 : decode cX8_odds 82 = .ok (.getfield 18, 3) := by decide +kernel
theorem dX8_odds_85 : decode cX8_odds 85 = .ok (.invokevirtual 214, 3) := by decide +kernel
theorem dX8_odds_88 : decode cX8_odds 88 = .ok (.ifCond .ne 6, 3) := by decide +kernel
theorem dX8_odds_91 : decode cX8_odds 91 = .ok (.iinc 3 1, 3) := by decide +kernel
theorem dX8_odds_94 : decode cX8_odds 94 = .ok (.iinc 4 1, 3) := by decide +kernel
theorem dX8_odds_97 : decode cX8_odds 97 = .ok (.goto (-61), 3) := by decide +kernel
theorem dX8_odds_100 : decode cX8_odds 100 = .ok (.iload_n 3, 1) := by decide +kernel
theorem dX8_odds_101 : decode cX8_odds 101 = .ok (.aload_n 0, 1) := by decide +kernel
theorem dX8_odds_102 : decode cX8_odds 102 = .ok (.getfield 12, 3) := by decide +kernel
theorem dX8_odds_105 : decode cX8_odds 105 = .ok (.getfield 86, 3) := by decide +kernel
theorem dX8_odds_108 : decode cX8_odds 108 = .ok (.iload_n 2, 1) := by decide +kernel
theorem dX8_odds_109 : decode cX8_odds 109 = .ok (.invokestatic 295, 3) := by decide +kernel
theorem dX8_odds_112 : decode cX8_odds 112 = .ok (.lreturn, 1) := by decide +kernel
theorem dX8_mean_0 : decode cX8_mean 0 = .ok (.iload_n 1, 1) := by decide +kernel
theorem dX8_mean_1 : decode cX8_mean 1 = .ok (.iconst 1, 1) := by decide +kernel
theorem dX8_mean_2 : decode cX8_mean 2 = .ok (.if_icmp .lt 16, 3) := by decide +kernel
theorem dX8_mean_5 : decode cX8_mean 5 = .ok (.iload_n 1, 1) := by decide +kernel
theorem dX8_mean_6 : decode cX8_mean 6 = .ok (.bipush 60, 2) := by decide +kernel
theorem dX8_mean_8 : decode cX8_mean 8 = .ok (.if_icmp .gt 10, 3) := by decide +kernel
theorem dX8_mean_11 : decode cX8_mean 11 = .ok (.iload_n 2, 1) := by decide +kernel
theorem dX8_mean_12 : decode cX8_mean 12 = .ok (.invokestatic 262, 3) := by decide +kernel
theorem dX8_mean_15 : decode cX8_mean 15 = .ok (.ifCond .ne 7, 3) := by decide +kernel
theorem dX8_mean_18 : decode cX8_mean 18 = .ok (.ldc2_w 293, 3) := by decide +kernel
theorem dX8_mean_21 : decode cX8_mean 21 = .ok (.lreturn, 1) := by decide +kernel
theorem dX8_mean_22 : decode cX8_mean 22 = .ok (.aload_n 0, 1) := by decide +kernel
theorem dX8_mean_23 : decode cX8_mean 23 = .ok (.getfield 18, 3) := by decide +kernel
theorem dX8_mean_26 : decode cX8_mean 26 = .ok (.aload_n 0, 1) := by decide +kernel
theorem dX8_mean_27 : decode cX8_mean 27 = .ok (.getfield 12, 3) := by decide +kernel
theorem dX8_mean_30 : decode cX8_mean 30 = .ok (.invokevirtual 210, 3) := by decide +kernel
theorem dX8_mean_33 : decode cX8_mean 33 = .ok (.iconst 0, 1) := by decide +kernel
theorem dX8_mean_34 : decode cX8_mean 34 = .ok (.istore_n 3, 1) := by decide +kernel
theorem dX8_mean_35 : decode cX8_mean 35 = .ok (.iconst 1, 1) := by decide +kernel
theorem dX8_mean_36 : decode cX8_mean 36 = .ok (.istore 4, 2) := by decide +kernel
theorem dX8_mean_38 : decode cX8_mean 38 = .ok (.iload 4, 2) := by decide +kernel
theorem dX8_mean_40 : decode cX8_mean 40 = .ok (.iload_n 1, 1) := by decide +kernel
theorem dX8_mean_41 : decode cX8_mean 41 = .ok (.if_icmp .gt 34, 3) := by decide +kernel
theorem dX8_mean_44 : decode cX8_mean 44 = .ok (.aload_n 0, 1) := by decide +kernel
theorem dX8_mean_45 : decode cX8_mean 45 = .ok (.getfield 18, 3) := by decide +kernel
theorem dX8_mean_48 : decode cX8_mean 48 = .ok (.invokevirtual 217, 3) := by decide +kernel
theorem dX8_mean_51 : decode cX8_mean 51 = .ok (.iload_n 3, 1) := by decide +kernel
theorem dX8_mean_52 : decode cX8_mean 52 = .ok (.aload_n 0, 1) := by decide +kernel
theorem dX8_mean_53 : decode cX8_mean 53 = .ok (.getfield 18, 3) := by decide +kernel
theorem dX8_mean_56 : decode cX8_mean 56 = .ok (.getfield 86, 3) := by decide +kernel
theorem dX8_mean_59 : decode cX8_mean 59 = .ok (.aload_n 0, 1) := by decide +kernel
theorem dX8_mean_60 : decode cX8_mean 60 = .ok (.getfield 18, 3) := by decide +kernel
theorem dX8_mean_63 : decode cX8_mean 63 = .ok (.invokevirtual 214, 3) := by decide +kernel
theorem dX8_mean_66 : decode cX8_mean 66 = .ok (.isub, 1) := by decide +kernel
theorem dX8_mean_67 : decode cX8_mean 67 = .ok (.iadd, 1) := by decide +kernel
theorem dX8_mean_68 : decode cX8_mean 68 = .ok (.istore_n 3, 1) := by decide +kernel
theorem dX8_mean_69 : decode cX8_mean 69 = .ok (.iinc 4 1, 3) := by decide +kernel
theorem dX8_mean_72 : decode cX8_mean 72 = .ok (.goto (-34), 3) := by decide +kernel
theorem dX8_mean_75 : decode cX8_mean 75 = .ok (.iload_n 3, 1) := by decide +kernel
theorem dX8_mean_76 : decode cX8_mean 76 = .ok (.iload_n 1, 1) := by decide +kernel
theorem dX8_mean_77 : decode cX8_mean 77 = .ok (.iload_n 2, 1) := by decide +kernel
theorem dX8_mean_78 : decode cX8_mean 78 = .ok (.invokestatic 295, 3) := by decide +kernel
theorem dX8_mean_81 : decode cX8_mean 81 = .ok (.lreturn, 1) := by decide +kernel
theorem dX8_fractionPart_0 : decode cX8_fractionPart 0 = .ok (.iload_n 0, 1) := by decide +kernel
theorem dX8_fractionPart_1 : decode cX8_fractionPart 1 = .ok (.iload_n 1, 1) := by decide +kernel
theorem dX8_fractionPart_2 : decode cX8_fractionPart 2 = .ok (.invokestatic 299, 3) := by decide +kernel
theorem dX8_fractionPart_5 : decode cX8_fractionPart 5 = .ok (.istore_n 3, 1) := by decide +kernel
theorem dX8_fractionPart_6 : decode cX8_fractionPart 6 = .ok (.iload_n 3, 1) := by decide +kernel
theorem dX8_fractionPart_7 : decode cX8_fractionPart 7 = .ok (.iconst 1, 1) := by decide +kernel
theorem dX8_fractionPart_8 : decode cX8_fractionPart 8 = .ok (.if_icmp .ge 7, 3) := by decide +kernel
theorem dX8_fractionPart_11 : decode cX8_fractionPart 11 = .ok (.ldc2_w 293, 3) := by decide +kernel
theorem dX8_fractionPart_14 : decode cX8_fractionPart 14 = .ok (.lreturn, 1) := by decide +kernel
theorem dX8_fractionPart_15 : decode cX8_fractionPart 15 = .ok (.iload_n 2, 1) := by decide +kernel
theorem dX8_fractionPart_16 : decode cX8_fractionPart 16 = .ok (.ifCond .ne 10, 3) := by decide +kernel
theorem dX8_fractionPart_19 : decode cX8_fractionPart 19 = .ok (.iload_n 0, 1) := by decide +kernel
theorem dX8_fractionPart_20 : decode cX8_fractionPart 20 = .ok (.iload_n 3, 1) := by decide +kernel
theorem dX8_fractionPart_21 : decode cX8_fractionPart 21 = .ok (.idiv, 1) := by decide +kernel
theorem dX8_fractionPart_22 : decode cX8_fractionPart 22 = .ok (.i2l, 1) := by decide +kernel
theorem dX8_fractionPart_23 : decode cX8_fractionPart 23 = .ok (.goto 7, 3) := by decide +kernel
theorem dX8_fractionPart_26 : decode cX8_fractionPart 26 = .ok (.iload_n 1, 1) := by decide +kernel
theorem dX8_fractionPart_27 : decode cX8_fractionPart 27 = .ok (.iload_n 3, 1) := by decide +kernel
theorem dX8_fractionPart_28 : decode cX8_fractionPart 28 = .ok (.idiv, 1) := by decide +kernel
theorem dX8_fractionPart_29 : decode cX8_fractionPart 29 = .ok (.i2l, 1) := by decide +kernel
theorem dX8_fractionPart_30 : decode cX8_fractionPart 30 = .ok (.lreturn, 1) := by decide +kernel
theorem dX8_commonDivisor_0 : decode cX8_commonDivisor 0 = .ok (.iload_n 0, 1) := by decide +kernel
theorem dX8_commonDivisor_1 : decode cX8_commonDivisor 1 = .ok (.istore_n 2, 1) := by decide +kernel
theorem dX8_commonDivisor_2 : decode cX8_commonDivisor 2 = .ok (.iload_n 1, 1) := by decide +kernel
theorem dX8_commonDivisor_3 : decode cX8_commonDivisor 3 = .ok (.istore_n 3, 1) := by decide +kernel
theorem dX8_commonDivisor_4 : decode cX8_commonDivisor 4 = .ok (.iconst 0, 1) := by decide +kernel
theorem dX8_commonDivisor_5 : decode cX8_commonDivisor 5 = .ok (.istore 4, 2) := by decide +kernel
theorem dX8_commonDivisor_7 : decode cX8_commonDivisor 7 = .ok (.iload 4, 2) := by decide +kernel
theorem dX8_commonDivisor_9 : decode cX8_commonDivisor 9 = .ok (.bipush 100, 2) := by decide +kernel
theorem dX8_commonDivisor_11 : decode cX8_commonDivisor 11 = .ok (.if_icmp .ge 23, 3) := by decide +kernel
theorem dX8_commonDivisor_14 : decode cX8_commonDivisor 14 = .ok (.iload_n 3, 1) := by decide +kernel
theorem dX8_commonDivisor_15 : decode cX8_commonDivisor 15 = .ok (.ifCond .eq 19, 3) := by decide +kernel
theorem dX8_commonDivisor_18 : decode cX8_commonDivisor 18 = .ok (.iload_n 2, 1) := by decide +kernel
theorem dX8_commonDivisor_19 : decode cX8_commonDivisor 19 = .ok (.iload_n 3, 1) := by decide +kernel
theorem dX8_commonDivisor_20 : decode cX8_commonDivisor 20 = .ok (.irem, 1) := by decide +kernel
theorem dX8_commonDivisor_21 : decode cX8_commonDivisor 21 = .ok (.istore 5, 2) := by decide +kernel
theorem dX8_commonDivisor_23 : decode cX8_commonDivisor 23 = .ok (.iload_n 3, 1) := by decide +kernel
theorem dX8_commonDivisor_24 : decode cX8_commonDivisor 24 = .ok (.istore_n 2, 1) := by decide +kernel
theorem dX8_commonDivisor_25 : decode cX8_commonDivisor 25 = .ok (.iload 5, 2) := by decide +kernel
theorem dX8_commonDivisor_27 : decode cX8_commonDivisor 27 = .ok (.istore_n 3, 1) := by decide +kernel
theorem dX8_commonDivisor_28 : decode cX8_commonDivisor 28 = .ok (.iinc 4 1, 3) := by decide +kernel
theorem dX8_commonDivisor_31 : decode cX8_commonDivisor 31 = .ok (.goto (-24), 3) := by decide +kernel
theorem dX8_commonDivisor_34 : decode cX8_commonDivisor 34 = .ok (.iload_n 2, 1) := by decide +kernel
theorem dX8_commonDivisor_35 : decode cX8_commonDivisor 35 = .ok (.ireturn, 1) := by decide +kernel
theorem dX8_evening_0 : decode cX8_evening 0 = .ok (.iload_n 1, 1) := by decide +kernel
theorem dX8_evening_1 : decode cX8_evening 1 = .ok (.iconst (-1), 1) := by decide +kernel
theorem dX8_evening_2 : decode cX8_evening 2 = .ok (.if_icmp .ne 13, 3) := by decide +kernel
theorem dX8_evening_5 : decode cX8_evening 5 = .ok (.aload_n 0, 1) := by decide +kernel
theorem dX8_evening_6 : decode cX8_evening 6 = .ok (.getfield 30, 3) := by decide +kernel
theorem dX8_evening_9 : decode cX8_evening 9 = .ok (.iconst 0, 1) := by decide +kernel
theorem dX8_evening_10 : decode cX8_evening 10 = .ok (.putfield 252, 3) := by decide +kernel
theorem dX8_evening_13 : decode cX8_evening 13 = .ok (.iconst 0, 1) := by decide +kernel
theorem dX8_evening_14 : decode cX8_evening 14 = .ok (.ireturn, 1) := by decide +kernel
theorem dX8_evening_15 : decode cX8_evening 15 = .ok (.iload_n 1, 1) := by decide +kernel
theorem dX8_evening_16 : decode cX8_evening 16 = .ok (.iconst 1, 1) := by decide +kernel
theorem dX8_evening_17 : decode cX8_evening 17 = .ok (.if_icmp .eq 8, 3) := by decide +kernel
theorem dX8_evening_20 : decode cX8_evening 20 = .ok (.iload_n 1, 1) := by decide +kernel
theorem dX8_evening_21 : decode cX8_evening 21 = .ok (.iconst 2, 1) := by decide +kernel
theorem dX8_evening_22 : decode cX8_evening 22 = .ok (.if_icmp .ne 18, 3) := by decide +kernel
theorem dX8_evening_25 : decode cX8_evening 25 = .ok (.aload_n 0, 1) := by decide +kernel
theorem dX8_evening_26 : decode cX8_evening 26 = .ok (.getfield 12, 3) := by decide +kernel
theorem dX8_evening_29 : decode cX8_evening 29 = .ok (.iload_n 2, 1) := by decide +kernel
theorem dX8_evening_30 : decode cX8_evening 30 = .ok (.invokevirtual 142, 3) := by decide +kernel
theorem dX8_evening_33 : decode cX8_evening 33 = .ok (.ifCond .ne 7, 3) := by decide +kernel
theorem dX8_evening_36 : decode cX8_evening 36 = .ok (.iconst 1, 1) := by decide +kernel
theorem dX8_evening_37 : decode cX8_evening 37 = .ok (.goto 4, 3) := by decide +kernel
theorem dX8_evening_40 : decode cX8_evening 40 = .ok (.iconst 0, 1) := by decide +kernel
theorem dX8_evening_41 : decode cX8_evening 41 = .ok (.istore_n 3, 1) := by decide +kernel
theorem dX8_evening_42 : decode cX8_evening 42 = .ok (.iload_n 1, 1) := by decide +kernel
theorem dX8_evening_43 : decode cX8_evening 43 = .ok (.iconst 3, 1) := by decide +kernel
theorem dX8_evening_44 : decode cX8_evening 44 = .ok (.if_icmp .ne 18, 3) := by decide +kernel
theorem dX8_evening_47 : decode cX8_evening 47 = .ok (.aload_n 0, 1) := by decide +kernel
theorem dX8_evening_48 : decode cX8_evening 48 = .ok (.getfield 12, 3) := by decide +kernel
theorem dX8_evening_51 : decode cX8_evening 51 = .ok (.iload_n 2, 1) := by decide +kernel
theorem dX8_evening_52 : decode cX8_evening 52 = .ok (.invokevirtual 93, 3) := by decide +kernel
theorem dX8_evening_55 : decode cX8_evening 55 = .ok (.ifCond .ne 7, 3) := by decide +kernel
theorem dX8_evening_58 : decode cX8_evening 58 = .ok (.iconst 1, 1) := by decide +kernel
theorem dX8_evening_59 : decode cX8_evening 59 = .ok (.goto 4, 3) := by decide +kernel
theorem dX8_evening_62 : decode cX8_evening 62 = .ok (.iconst 0, 1) := by decide +kernel
theorem dX8_evening_63 : decode cX8_evening 63 = .ok (.istore 4, 2) := by decide +kernel
theorem dX8_evening_65 : decode cX8_evening 65 = .ok (.iload_n 1, 1) := by decide +kernel
theorem dX8_evening_66 : decode cX8_evening 66 = .ok (.ifCond .lt 17, 3) := by decide +kernel
theorem dX8_evening_69 : decode cX8_evening 69 = .ok (.iload_n 1, 1) := by decide +kernel
theorem dX8_evening_70 : decode cX8_evening 70 = .ok (.iconst 3, 1) := by decide +kernel
theorem dX8_evening_71 : decode cX8_evening 71 = .ok (.if_icmp .gt 12, 3) := by decide +kernel
theorem dX8_evening_74 : decode cX8_evening 74 = .ok (.iload_n 3, 1) := by decide +kernel
theorem dX8_evening_75 : decode cX8_evening 75 = .ok (.ifCond .ne 8, 3) := by decide +kernel
theorem dX8_evening_78 : decode cX8_evening 78 = .ok (.iload 4, 2) := by decide +kernel
theorem dX8_evening_80 : decode cX8_evening 80 = .ok (.ifCond .eq 5, 3) := by decide +kernel
theorem dX8_evening_83 : decode cX8_evening 83 = .ok (.iconst (-1), 1) := by decide +kernel
theorem dX8_evening_84 : decode cX8_evening 84 = .ok (.ireturn, 1) := by decide +kernel
theorem dX8_evening_85 : decode cX8_evening 85 = .ok (.aload_n 0, 1) := by decide +kernel
theorem dX8_evening_86 : decode cX8_evening 86 = .ok (.getfield 30, 3) := by decide +kernel
theorem dX8_evening_89 : decode cX8_evening 89 = .ok (.invokevirtual 255, 3) := by decide +kernel
theorem dX8_evening_92 : decode cX8_evening 92 = .ok (.ifCond .eq 8, 3) := by decide +kernel
theorem dX8_evening_95 : decode cX8_evening 95 = .ok (.bipush (-4), 2) := by decide +kernel
theorem dX8_evening_97 : decode cX8_evening 97 = .ok (.goto 13, 3) := by decide +kernel
theorem dX8_evening_100 : decode cX8_evening 100 = .ok (.aload_n 0, 1) := by decide +kernel
theorem dX8_evening_101 : decode cX8_evening 101 = .ok (.getfield 30, 3) := by decide +kernel
theorem dX8_evening_104 : decode cX8_evening 104 = .ok (.iload_n 1, 1) := by decide +kernel
theorem dX8_evening_105 : decode cX8_evening 105 = .ok (.iload_n 2, 1) := by decide +kernel
theorem dX8_evening_106 : decode cX8_evening 106 = .ok (.iconst 0, 1) := by decide +kernel
theorem dX8_evening_107 : decode cX8_evening 107 = .ok (.invokevirtual 259, 3) := by decide +kernel
theorem dX8_evening_110 : decode cX8_evening 110 = .ok (.ireturn, 1) := by decide +kernel
theorem dX8_gone_0 : decode cX8_gone 0 = .ok (.iload_n 1, 1) := by decide +kernel
theorem dX8_gone_1 : decode cX8_gone 1 = .ok (.invokestatic 262, 3) := by decide +kernel
theorem dX8_gone_4 : decode cX8_gone 4 = .ok (.ifCond .ne 5, 3) := by decide +kernel
theorem dX8_gone_7 : decode cX8_gone 7 = .ok (.iconst (-1), 1) := by decide +kernel
theorem dX8_gone_8 : decode cX8_gone 8 = .ok (.ireturn, 1) := by decide +kernel
theorem dX8_gone_9 : decode cX8_gone 9 = .ok (.aload_n 0, 1) := by decide +kernel
theorem dX8_gone_10 : decode cX8_gone 10 = .ok (.getfield 18, 3) := by decide +kernel
theorem dX8_gone_13 : decode cX8_gone 13 = .ok (.aload_n 0, 1) := by decide +kernel
theorem dX8_gone_14 : decode cX8_gone 14 = .ok (.getfield 12, 3) := by decide +kernel
theorem dX8_gone_17 : decode cX8_gone 17 = .ok (.invokevirtual 210, 3) := by decide +kernel
theorem dX8_gone_20 : decode cX8_gone 20 = .ok (.iconst 0, 1) := by decide +kernel
theorem dX8_gone_21 : decode cX8_gone 21 = .ok (.istore_n 2, 1) := by decide +kernel
theorem dX8_gone_22 : decode cX8_gone 22 = .ok (.iload_n 2, 1) := by decide +kernel
theorem dX8_gone_23 : decode cX8_gone 23 = .ok (.aload_n 0, 1) := by decide +kernel
theorem dX8_gone_24 : decode cX8_gone 24 = .ok (.getfield 30, 3) := by decide +kernel
theorem dX8_gone_27 : decode cX8_gone 27 = .ok (.getfield 252, 3) := by decide +kernel
theorem dX8_gone_30 : decode cX8_gone 30 = .ok (.if_icmp .ge 103, 3) := by decide +kernel
theorem dX8_gone_33 : decode cX8_gone 33 = .ok (.aload_n 0, 1) := by decide +kernel
theorem dX8_gone_34 : decode cX8_gone 34 = .ok (.getfield 30, 3) := by decide +kernel
theorem dX8_gone_37 : decode cX8_gone 37 = .ok (.getfield 287, 3) := by decide +kernel
theorem dX8_gone_40 : decode cX8_gone 40 = .ok (.iload_n 2, 1) := by decide +kernel
theorem dX8_gone_41 : decode cX8_gone 41 = .ok (.iaload, 1) := by decide +kernel
theorem dX8_gone_42 : decode cX8_gone 42 = .ok (.istore_n 3, 1) := by decide +kernel
theorem dX8_gone_43 : decode cX8_gone 43 = .ok (.aload_n 0, 1) := by decide +kernel
theorem dX8_gone_44 : decode cX8_gone 44 = .ok (.getfield 30, 3) := by decide +kernel
theorem dX8_gone_47 : decode cX8_gone 47 = .ok (.getfield 284, 3) := by decide +kernel
theorem dX8_gone_50 : decode cX8_gone 50 = .ok (.iload_n 2, 1) := by decide +kernel
theorem dX8_gone_51 : decode cX8_gone 51 = .ok (.iaload, 1) := by decide +kernel
theorem dX8_gone_52 : decode cX8_gone 52 = .ok (.tableswitch 62 0 2 #[28, 38, 50], 28) := by decide +kernel
theorem dX8_gone_80 : decode cX8_gone 80 = .ok (.aload_n 0, 1) := by decide +kernel
theorem dX8_gone_81 : decode cX8_gone 81 = .ok (.getfield 18, 3) := by decide +kernel
theorem dX8_gone_84 : decode cX8_gone 84 = .ok (.invokevirtual 217, 3) := by decide +kernel
theorem dX8_gone_87 : decode cX8_gone 87 = .ok (.goto 40, 3) := by decide +kernel
theorem dX8_gone_90 : decode cX8_gone 90 = .ok (.aload_n 0, 1) := by decide +kernel
theorem dX8_gone_91 : decode cX8_gone 91 = .ok (.getfield 18, 3) := by decide +kernel
theorem dX8_gone_94 : decode cX8_gone 94 = .ok (.iload_n 3, 1) := by decide +kernel
theorem dX8_gone_95 : decode cX8_gone 95 = .ok (.iconst 0, 1) := by decide +kernel
theorem dX8_gone_96 : decode cX8_gone 96 = .ok (.invokevirtual 148, 3) := by decide +kernel
theorem dX8_gone_99 : decode cX8_gone 99 = .ok (.goto 28, 3) := by decide +kernel
theorem dX8_gone_102 : decode cX8_gone 102 = .ok (.aload_n 0, 1) := by decide +kernel
theorem dX8_gone_103 : decode cX8_gone 103 = .ok (.getfield 18, 3) := by decide +kernel
theorem dX8_gone_106 : decode cX8_gone 106 = .ok (.iload_n 3, 1) := by decide +kernel
theorem dX8_gone_107 : decode cX8_gone 107 = .ok (.iconst 1, 1) := by decide +kernel
theorem dX8_gone_108 : decode cX8_gone 108 = .ok (.invokevirtual 148, 3) := by decide +kernel
theorem dX8_gone_111 : decode cX8_gone 111 = .ok (.goto 16, 3) := by decide +kernel
theorem dX8_gone_114 : decode cX8_gone 114 = .ok (.aload_n 0, 1) := by decide +kernel
theorem dX8_gone_115 : decode cX8_gone 115 = .ok (.getfield 18, 3) := by decide +kernel
theorem dX8_gone_118 : decode cX8_gone 118 = .ok (.getfield 96, 3) := by decide +kernel
theorem dX8_gone_121 : decode cX8_gone 121 = .ok (.iload_n 3, 1) := by decide +kernel
theorem dX8_gone_122 : decode cX8_gone 122 = .ok (.aaload, 1) := by decide +kernel
theorem dX8_gone_123 : decode cX8_gone 123 = .ok (.iconst 1, 1) := by decide +kernel
theorem dX8_gone_124 : decode cX8_gone 124 = .ok (.putfield 111, 3) := by decide +kernel
theorem dX8_gone_127 : decode cX8_gone 127 = .ok (.iinc 2 1, 3) := by decide +kernel
theorem dX8_gone_130 : decode cX8_gone 130 = .ok (.goto (-108), 3) := by decide +kernel
theorem dX8_gone_133 : decode cX8_gone 133 = .ok (.iload_n 1, 1) := by decide +kernel
theorem dX8_gone_134 : decode cX8_gone 134 = .ok (.ifCond .ne 13, 3) := by decide +kernel
theorem dX8_gone_137 : decode cX8_gone 137 = .ok (.aload_n 0, 1) := by decide +kernel
theorem dX8_gone_138 : decode cX8_gone 138 = .ok (.getfield 18, 3) := by decide +kernel
theorem dX8_gone_141 : decode cX8_gone 141 = .ok (.invokevirtual 203, 3) := by decide +kernel
theorem dX8_gone_144 : decode cX8_gone 144 = .ok (.goto 10, 3) := by decide +kernel
theorem dX8_gone_147 : decode cX8_gone 147 = .ok (.aload_n 0, 1) := by decide +kernel
theorem dX8_gone_148 : decode cX8_gone 148 = .ok (.getfield 18, 3) := by decide +kernel
theorem dX8_gone_151 : decode cX8_gone 151 = .ok (.getfield 200, 3) := by decide +kernel
theorem dX8_gone_154 : decode cX8_gone 154 = .ok (.ireturn, 1) := by decide +kernel
theorem dX8_book_0 : decode cX8_book 0 = .ok (.iload_n 1, 1) := by decide +kernel
theorem dX8_book_1 : decode cX8_book 1 = .ok (.iconst (-1), 1) := by decide +kernel
theorem dX8_book_2 : decode cX8_book 2 = .ok (.if_icmp .ne 13, 3) := by decide +kernel
theorem dX8_book_5 : decode cX8_book 5 = .ok (.aload_n 0, 1) := by decide +kernel
theorem dX8_book_6 : decode cX8_book 6 = .ok (.getfield 33, 3) := by decide +kernel
theorem dX8_book_9 : decode cX8_book 9 = .ok (.iconst 0, 1) := by decide +kernel
theorem dX8_book_10 : decode cX8_book 10 = .ok (.putfield 252, 3) := by decide +kernel
theorem dX8_book_13 : decode cX8_book 13 = .ok (.iconst 0, 1) := by decide +kernel
theorem dX8_book_14 : decode cX8_book 14 = .ok (.ireturn, 1) := by decide +kernel
theorem dX8_book_15 : decode cX8_book 15 = .ok (.aload_n 0, 1) := by decide +kernel
theorem dX8_book_16 : decode cX8_book 16 = .ok (.getfield 12, 3) := by decide +kernel
theorem dX8_book_19 : decode cX8_book 19 = .ok (.iload_n 1, 1) := by decide +kernel
theorem dX8_book_20 : decode cX8_book 20 = .ok (.invokevirtual 93, 3) := by decide +kernel
theorem dX8_book_23 : decode cX8_book 23 = .ok (.ifCond .ne 5, 3) := by decide +kernel
theorem dX8_book_26 : decode cX8_book 26 = .ok (.iconst (-1), 1) := by decide +kernel
theorem dX8_book_27 : decode cX8_book 27 = .ok (.ireturn, 1) := by decide +kernel
theorem dX8_book_28 : decode cX8_book 28 = .ok (.iload_n 2, 1) := by decide +kernel
theorem dX8_book_29 : decode cX8_book 29 = .ok (.invokestatic 71, 3) := by decide +kernel
theorem dX8_book_32 : decode cX8_book 32 = .ok (.ifCond .ne 6, 3) := by decide +kernel
theorem dX8_book_35 : decode cX8_book 35 = .ok (.bipush (-2), 2) := by decide +kernel
theorem dX8_book_37 : decode cX8_book 37 = .ok (.ireturn, 1) := by decide +kernel
theorem dX8_book_38 : decode cX8_book 38 = .ok (.aload_n 0, 1) := by decide +kernel
theorem dX8_book_39 : decode cX8_book 39 = .ok (.getfield 33, 3) := by decide +kernel
theorem dX8_book_42 : decode cX8_book 42 = .ok (.invokevirtual 255, 3) := by decide +kernel
theorem dX8_book_45 : decode cX8_book 45 = .ok (.ifCond .eq 8, 3) := by decide +kernel
theorem dX8_book_48 : decode cX8_book 48 = .ok (.bipush (-4), 2) := by decide +kernel
theorem dX8_book_50 : decode cX8_book 50 = .ok (.goto 13, 3) := by decide +kernel
theorem dX8_book_53 : decode cX8_book 53 = .ok (.aload_n 0, 1) := by decide +kernel
theorem dX8_book_54 : decode cX8_book 54 = .ok (.getfield 33, 3) := by decide +kernel
theorem dX8_book_57 : decode cX8_book 57 = .ok (.iload_n 1, 1) := by decide +kernel
theorem dX8_book_58 : decode cX8_book 58 = .ok (.iload_n 2, 1) := by decide +kernel
theorem dX8_book_59 : decode cX8_book 59 = .ok (.iconst 0, 1) := by decide +kernel
theorem dX8_book_60 : decode cX8_book 60 = .ok (.invokevirtual 259, 3) := by decide +kernel
theorem dX8_book_63 : decode cX8_book 63 = .ok (.ireturn, 1) := by decide +kernel
theorem dX8_looked_0 : decode cX8_looked 0 = .ok (.iconst 0, 1) := by decide +kernel
theorem dX8_looked_1 : decode cX8_looked 1 = .ok (.istore_n 1, 1) := by decide +kernel
theorem dX8_looked_2 : decode cX8_looked 2 = .ok (.iload_n 1, 1) := by decide +kernel
theorem dX8_looked_3 : decode cX8_looked 3 = .ok (.aload_n 0, 1) := by decide +kernel
theorem dX8_looked_4 : decode cX8_looked 4 = .ok (.getfield 33, 3) := by decide +kernel
theorem dX8_looked_7 : decode cX8_looked 7 = .ok (.getfield 252, 3) := by decide +kernel
theorem dX8_looked_10 : decode cX8_looked 10 = .ok (.if_icmp .ge 43, 3) := by decide +kernel
theorem dX8_looked_13 : decode cX8_looked 13 = .ok (.aload_n 0, 1) := by decide +kernel
theorem dX8_looked_14 : decode cX8_looked 14 = .ok (.getfield 12, 3) := by decide +kernel
theorem dX8_looked_17 : decode cX8_looked 17 = .ok (.getfield 96, 3) := by decide +kernel
theorem dX8_looked_20 : decode cX8_looked 20 = .ok (.aload_n 0, 1) := by decide +kernel
theorem dX8_looked_21 : decode cX8_looked 21 = .ok (.getfield 33, 3) := by decide +kernel
theorem dX8_looked_24 : decode cX8_looked 24 = .ok (.getfield 284, 3) := by decide +kernel
theorem dX8_looked_27 : decode cX8_looked 27 = .ok (.iload_n 1, 1) := by decide +kernel
theorem dX8_looked_28 : decode cX8_looked 28 = .ok (.iaload, 1) := by decide +kernel
theorem dX8_looked_29 : decode cX8_looked 29 = .ok (.aaload, 1) := by decide +kernel
theorem dX8_looked_30 : decode cX8_looked 30 = .ok (.getfield 108, 3) := by decide +kernel
theorem dX8_looked_33 : decode cX8_looked 33 = .ok (.aload_n 0, 1) := by decide +kernel
theorem dX8_looked_34 : decode cX8_looked 34 = .ok (.getfield 33, 3) := by decide +kernel
theorem dX8_looked_37 : decode cX8_looked 37 = .ok (.getfield 287, 3) := by decide +kernel
theorem dX8_looked_40 : decode cX8_looked 40 = .ok (.iload_n 1, 1) := by decide +kernel
theorem dX8_looked_41 : decode cX8_looked 41 = .ok (.iaload, 1) := by decide +kernel
theorem dX8_looked_42 : decode cX8_looked 42 = .ok (.if_icmp .eq 5, 3) := by decide +kernel
theorem dX8_looked_45 : decode cX8_looked 45 = .ok (.iload_n 1, 1) := by decide +kernel
theorem dX8_looked_46 : decode cX8_looked 46 = .ok (.ireturn, 1) := by decide +kernel
theorem dX8_looked_47 : decode cX8_looked 47 = .ok (.iinc 1 1, 3) := by decide +kernel
theorem dX8_looked_50 : decode cX8_looked 50 = .ok (.goto (-48), 3) := by decide +kernel
theorem dX8_looked_53 : decode cX8_looked 53 = .ok (.bipush (-5), 2) := by decide +kernel
theorem dX8_looked_55 : decode cX8_looked 55 = .ok (.ireturn, 1) := by decide +kernel
theorem dX8_judge_0 : decode cX8_judge 0 = .ok (.iload_n 1, 1) := by decide +kernel
theorem dX8_judge_1 : decode cX8_judge 1 = .ok (.invokestatic 302, 3) := by decide +kernel
theorem dX8_judge_4 : decode cX8_judge 4 = .ok (.ifCond .ne 5, 3) := by decide +kernel
theorem dX8_judge_7 : decode cX8_judge 7 = .ok (.iconst (-1), 1) := by decide +kernel
theorem dX8_judge_8 : decode cX8_judge 8 = .ok (.ireturn, 1) := by decide +kernel
theorem dX8_judge_9 : decode cX8_judge 9 = .ok (.aload_n 0, 1) := by decide +kernel
theorem dX8_judge_10 : decode cX8_judge 10 = .ok (.getfield 65, 3) := by decide +kernel
theorem dX8_judge_13 : decode cX8_judge 13 = .ok (.iload_n 1, 1) := by decide +kernel
theorem dX8_judge_14 : decode cX8_judge 14 = .ok (.aaload, 1) := by decide +kernel
theorem dX8_judge_15 : decode cX8_judge 15 = .ok (.astore_n 3, 1) := by decide +kernel
theorem dX8_judge_16 : decode cX8_judge 16 = .ok (.aload_n 3, 1) := by decide +kernel
theorem dX8_judge_17 : decode cX8_judge 17 = .ok (.getfield 305, 3) := by decide +kernel
theorem dX8_judge_20 : decode cX8_judge 20 = .ok (.iconst (-1), 1) := by decide +kernel
theorem dX8_judge_21 : decode cX8_judge 21 = .ok (.if_icmp .eq 13, 3) := by decide +kernel
theorem dX8_judge_24 : decode cX8_judge 24 = .ok (.aload_n 3, 1) := by decide +kernel
theorem dX8_judge_25 : decode cX8_judge 25 = .ok (.getfield 305, 3) := by decide +kernel
theorem dX8_judge_28 : decode cX8_judge 28 = .ok (.ifCond .eq 6, 3) := by decide +kernel
theorem dX8_judge_31 : decode cX8_judge 31 = .ok (.bipush (-12), 2) := by decide +kernel
theorem dX8_judge_33 : decode cX8_judge 33 = .ok (.ireturn, 1) := by decide +kernel
theorem dX8_judge_34 : decode cX8_judge 34 = .ok (.iload_n 2, 1) := by decide +kernel
theorem dX8_judge_35 : decode cX8_judge 35 = .ok (.ifCond .ge 16, 3) := by decide +kernel
theorem dX8_judge_38 : decode cX8_judge 38 = .ok (.aload_n 0, 1) := by decide +kernel
theorem dX8_judge_39 : decode cX8_judge 39 = .ok (.getfield 12, 3) := by decide +kernel
theorem dX8_judge_42 : decode cX8_judge 42 = .ok (.getfield 86, 3) := by decide +kernel
theorem dX8_judge_45 : decode cX8_judge 45 = .ok (.ifCond .le 6, 3) := by decide +kernel
theorem dX8_judge_48 : decode cX8_judge 48 = .ok (.bipush 100, 2) := by decide +kernel
theorem dX8_judge_50 : decode cX8_judge 50 = .ok (.ireturn, 1) := by decide +kernel
theorem dX8_judge_51 : decode cX8_judge 51 = .ok (.iconst 0, 1) := by decide +kernel
theorem dX8_judge_52 : decode cX8_judge 52 = .ok (.istore 4, 2) := by decide +kernel
theorem dX8_judge_54 : decode cX8_judge 54 = .ok (.iload 4, 2) := by decide +kernel
theorem dX8_judge_56 : decode cX8_judge 56 = .ok (.aload_n 0, 1) := by decide +kernel
theorem dX8_judge_57 : decode cX8_judge 57 = .ok (.getfield 12, 3) := by decide +kernel
theorem dX8_judge_60 : decode cX8_judge 60 = .ok (.getfield 86, 3) := by decide +kernel
theorem dX8_judge_63 : decode cX8_judge 63 = .ok (.if_icmp .ge 56, 3) := by decide +kernel
theorem dX8_judge_66 : decode cX8_judge 66 = .ok (.iload 4, 2) := by decide +kernel
theorem dX8_judge_68 : decode cX8_judge 68 = .ok (.aload_n 3, 1) := by decide +kernel
theorem dX8_judge_69 : decode cX8_judge 69 = .ok (.getfield 308, 3) := by decide +kernel
theorem dX8_judge_72 : decode cX8_judge 72 = .ok (.iload_n 2, 1) := by decide +kernel
theorem dX8_judge_73 : decode cX8_judge 73 = .ok (.isub, 1) := by decide +kernel
theorem dX8_judge_74 : decode cX8_judge 74 = .ok (.if_icmp .lt 9, 3) := by decide +kernel
theorem dX8_judge_77 : decode cX8_judge 77 = .ok (.bipush 100, 2) := by decide +kernel
theorem dX8_judge_79 : decode cX8_judge 79 = .ok (.iload 4, 2) := by decide +kernel
theorem dX8_judge_81 : decode cX8_judge 81 = .ok (.iadd, 1) := by decide +kernel
theorem dX8_judge_82 : decode cX8_judge 82 = .ok (.ireturn, 1) := by decide +kernel
theorem dX8_judge_83 : decode cX8_judge 83 = .ok (.aload_n 3, 1) := by decide +kernel
theorem dX8_judge_84 : decode cX8_judge 84 = .ok (.getfield 309, 3) := by decide +kernel
theorem dX8_judge_87 : decode cX8_judge 87 = .ok (.iload_n 2, 1) := by decide +kernel
theorem dX8_judge_88 : decode cX8_judge 88 = .ok (.iload 4, 2) := by decide +kernel
theorem dX8_judge_90 : decode cX8_judge 90 = .ok (.iadd, 1) := by decide +kernel
theorem dX8_judge_91 : decode cX8_judge 91 = .ok (.laload, 1) := by decide +kernel
theorem dX8_judge_92 : decode cX8_judge 92 = .ok (.aload_n 0, 1) := by decide +kernel
theorem dX8_judge_93 : decode cX8_judge 93 = .ok (.getfield 12, 3) := by decide +kernel
theorem dX8_judge_96 : decode cX8_judge 96 = .ok (.getfield 96, 3) := by decide +kernel
theorem dX8_judge_99 : decode cX8_judge 99 = .ok (.iload 4, 2) := by decide +kernel
theorem dX8_judge_101 : decode cX8_judge 101 = .ok (.aaload, 1) := by decide +kernel
theorem dX8_judge_102 : decode cX8_judge 102 = .ok (.getfield 108, 3) := by decide +kernel
theorem dX8_judge_105 : decode cX8_judge 105 = .ok (.i2l, 1) := by decide +kernel
theorem dX8_judge_106 : decode cX8_judge 106 = .ok (.lcmp, 1) := by decide +kernel
theorem dX8_judge_107 : decode cX8_judge 107 = .ok (.ifCond .eq 6, 3) := by decide +kernel
theorem dX8_judge_110 : decode cX8_judge 110 = .ok (.iload 4, 2) := by decide +kernel
theorem dX8_judge_112 : decode cX8_judge 112 = .ok (.ireturn, 1) := by decide +kernel
theorem dX8_judge_113 : decode cX8_judge 113 = .ok (.iinc 4 1, 3) := by decide +kernel
theorem dX8_judge_116 : decode cX8_judge 116 = .ok (.goto (-62), 3) := by decide +kernel
theorem dX8_judge_119 : decode cX8_judge 119 = .ok (.bipush (-5), 2) := by decide +kernel
theorem dX8_judge_121 : decode cX8_judge 121 = .ok (.ireturn, 1) := by decide +kernel
theorem dX8_image_0 : decode cX8_image 0 = .ok (.aload_n 0, 1) := by decide +kernel
theorem dX8_image_1 : decode cX8_image 1 = .ok (.getfield 39, 3) := by decide +kernel
theorem dX8_image_4 : decode cX8_image 4 = .ok (.getfield 313, 3) := by decide +kernel
theorem dX8_image_7 : decode cX8_image 7 = .ok (.aload_n 0, 1) := by decide +kernel
theorem dX8_image_8 : decode cX8_image 8 = .ok (.getfield 12, 3) := by decide +kernel
theorem dX8_image_11 : decode cX8_image 11 = .ok (.invokevirtual 210, 3) := by decide +kernel
theorem dX8_image_14 : decode cX8_image 14 = .ok (.aload_n 0, 1) := by decide +kernel
theorem dX8_image_15 : decode cX8_image 15 = .ok (.getfield 39, 3) := by decide +kernel
theorem dX8_image_18 : decode cX8_image 18 = .ok (.getfield 316, 3) := by decide +kernel
theorem dX8_image_21 : decode cX8_image 21 = .ok (.aload_n 0, 1) := by decide +kernel
theorem dX8_image_22 : decode cX8_image 22 = .ok (.getfield 26, 3) := by decide +kernel
theorem dX8_image_25 : decode cX8_image 25 = .ok (.invokevirtual 317, 3) := by decide +kernel
theorem dX8_image_28 : decode cX8_image 28 = .ok (.aload_n 0, 1) := by decide +kernel
theorem dX8_image_29 : decode cX8_image 29 = .ok (.getfield 39, 3) := by decide +kernel
theorem dX8_image_32 : decode cX8_image 32 = .ok (.getfield 320, 3) := by decide +kernel
theorem dX8_image_35 : decode cX8_image 35 = .ok (.aload_n 0, 1) := by decide +kernel
theorem dX8_image_36 : decode cX8_image 36 = .ok (.getfield 30, 3) := by decide +kernel
theorem dX8_image_39 : decode cX8_image 39 = .ok (.invokevirtual 317, 3) := by decide +kernel
theorem dX8_image_42 : decode cX8_image 42 = .ok (.aload_n 0, 1) := by decide +kernel
theorem dX8_image_43 : decode cX8_image 43 = .ok (.getfield 39, 3) := by decide +kernel
theorem dX8_image_46 : decode cX8_image 46 = .ok (.getfield 321, 3) := by decide +kernel
theorem dX8_image_49 : decode cX8_image 49 = .ok (.aload_n 0, 1) := by decide +kernel
theorem dX8_image_50 : decode cX8_image 50 = .ok (.getfield 33, 3) := by decide +kernel
theorem dX8_image_53 : decode cX8_image 53 = .ok (.invokevirtual 317, 3) := by decide +kernel
theorem dX8_image_56 : decode cX8_image 56 = .ok (.aload_n 0, 1) := by decide +kernel
theorem dX8_image_57 : decode cX8_image 57 = .ok (.getfield 39, 3) := by decide +kernel
theorem dX8_image_60 : decode cX8_image 60 = .ok (.iconst 1, 1) := by decide +kernel
theorem dX8_image_61 : decode cX8_image 61 = .ok (.putfield 322, 3) := by decide +kernel
theorem dX8_image_64 : decode cX8_image 64 = .ok (.aload_n 0, 1) := by decide +kernel
theorem dX8_image_65 : decode cX8_image 65 = .ok (.getfield 12, 3) := by decide +kernel
theorem dX8_image_68 : decode cX8_image 68 = .ok (.getfield 86, 3) := by decide +kernel
theorem dX8_image_71 : decode cX8_image 71 = .ok (.ireturn, 1) := by decide +kernel
theorem dX8_undo_0 : decode cX8_undo 0 = .ok (.aload_n 0, 1) := by decide +kernel
theorem dX8_undo_1 : decode cX8_undo 1 = .ok (.getfield 39, 3) := by decide +kernel
theorem dX8_undo_4 : decode cX8_undo 4 = .ok (.getfield 322, 3) := by decide +kernel
theorem dX8_undo_7 : decode cX8_undo 7 = .ok (.ifCond .ne 6, 3) := by decide +kernel
theorem dX8_undo_10 : decode cX8_undo 10 = .ok (.bipush (-3), 2) := by decide +kernel
theorem dX8_undo_12 : decode cX8_undo 12 = .ok (.ireturn, 1) := by decide +kernel
theorem dX8_undo_13 : decode cX8_undo 13 = .ok (.aload_n 0, 1) := by decide +kernel
theorem dX8_undo_14 : decode cX8_undo 14 = .ok (.getfield 12, 3) := by decide +kernel
theorem dX8_undo_17 : decode cX8_undo 17 = .ok (.aload_n 0, 1) := by decide +kernel
theorem dX8_undo_18 : decode cX8_undo 18 = .ok (.getfield 39, 3) := by decide +kernel
theorem dX8_undo_21 : decode cX8_undo 21 = .ok (.getfield 313, 3) := by decide +kernel
theorem dX8_undo_24 : decode cX8_undo 24 = .ok (.invokevirtual 210, 3) := by decide +kernel
theorem dX8_undo_27 : decode cX8_undo 27 = .ok (.aload_n 0, 1) := by decide +kernel
theorem dX8_undo_28 : decode cX8_undo 28 = .ok (.getfield 26, 3) := by decide +kernel
theorem dX8_undo_31 : decode cX8_undo 31 = .ok (.aload_n 0, 1) := by decide +kernel
theorem dX8_undo_32 : decode cX8_undo 32 = .ok (.getfield 39, 3) := by decide +kernel
theorem dX8_undo_35 : decode cX8_undo 35 = .ok (.getfield 316, 3) := by decide +kernel
theorem dX8_undo_38 : decode cX8_undo 38 = .ok (.invokevirtual 317, 3) := by decide +kernel
theorem dX8_undo_41 : decode cX8_undo 41 = .ok (.aload_n 0, 1) := by decide +kernel
theorem dX8_undo_42 : decode cX8_undo 42 = .ok (.getfield 30, 3) := by decide +kernel
theorem dX8_undo_45 : decode cX8_undo 45 = .ok (.aload_n 0, 1) := by decide +kernel
theorem dX8_undo_46 : decode cX8_undo 46 = .ok (.getfield 39, 3) := by decide +kernel
theorem dX8_undo_49 : decode cX8_undo 49 = .ok (.getfield 320, 3) := by decide +kernel
theorem dX8_undo_52 : decode cX8_undo 52 = .ok (.invokevirtual 317, 3) := by decide +kernel
theorem dX8_undo_55 : decode cX8_undo 55 = .ok (.aload_n 0, 1) := by decide +kernel
theorem dX8_undo_56 : decode cX8_undo 56 = .ok (.getfield 33, 3) := by decide +kernel
theorem dX8_undo_59 : decode cX8_undo 59 = .ok (.aload_n 0, 1) := by decide +kernel
theorem dX8_undo_60 : decode cX8_undo 60 = .ok (.getfield 39, 3) := by decide +kernel
theorem dX8_undo_63 : decode cX8_undo 63 = .ok (.getfield 321, 3) := by decide +kernel
theorem dX8_undo_66 : decode cX8_undo 66 = .ok (.invokevirtual 317, 3) := by decide +kernel
theorem dX8_undo_69 : decode cX8_undo 69 = .ok (.aload_n 0, 1) := by decide +kernel
theorem dX8_undo_70 : decode cX8_undo 70 = .ok (.getfield 12, 3) := by decide +kernel
theorem dX8_undo_73 : decode cX8_undo 73 = .ok (.getfield 86, 3) := by decide +kernel
theorem dX8_undo_76 : decode cX8_undo 76 = .ok (.ireturn, 1) := by decide +kernel
theorem dX8_act_0 : decode cX8_act 0 = .ok (.aload_n 0, 1) := by decide +kernel
theorem dX8_act_1 : decode cX8_act 1 = .ok (.getfield 59, 3) := by decide +kernel
theorem dX8_act_4 : decode cX8_act 4 = .ok (.iconst 0, 1) := by decide +kernel
theorem dX8_act_5 : decode cX8_act 5 = .ok (.putfield 325, 3) := by decide +kernel
theorem dX8_act_8 : decode cX8_act 8 = .ok (.aload_n 0, 1) := by decide +kernel
theorem dX8_act_9 : decode cX8_act 9 = .ok (.getfield 12, 3) := by decide +kernel
theorem dX8_act_12 : decode cX8_act 12 = .ok (.iload_n 1, 1) := by decide +kernel
theorem dX8_act_13 : decode cX8_act 13 = .ok (.invokevirtual 93, 3) := by decide +kernel
theorem dX8_act_16 : decode cX8_act 16 = .ok (.ifCond .eq 12, 3) := by decide +kernel
theorem dX8_act_19 : decode cX8_act 19 = .ok (.iload_n 2, 1) := by decide +kernel
theorem dX8_act_20 : decode cX8_act 20 = .ok (.ifCond .lt 8, 3) := by decide +kernel
theorem dX8_act_23 : decode cX8_act 23 = .ok (.iload_n 2, 1) := by decide +kernel
theorem dX8_act_24 : decode cX8_act 24 = .ok (.iconst 3, 1) := by decide +kernel
theorem dX8_act_25 : decode cX8_act 25 = .ok (.if_icmp .lt 5, 3) := by decide +kernel
theorem dX8_act_28 : decode cX8_act 28 = .ok (.iconst 0, 1) := by decide +kernel
theorem dX8_act_29 : decode cX8_act 29 = .ok (.ireturn, 1) := by decide +kernel
theorem dX8_act_30 : decode cX8_act 30 = .ok (.aload_n 0, 1) := by decide +kernel
theorem dX8_act_31 : decode cX8_act 31 = .ok (.getfield 59, 3) := by decide +kernel
theorem dX8_act_34 : decode cX8_act 34 = .ok (.iload_n 1, 1) := by decide +kernel
theorem dX8_act_35 : decode cX8_act 35 = .ok (.aload_n 0, 1) := by decide +kernel
theorem dX8_act_36 : decode cX8_act 36 = .ok (.getfield 12, 3) := by decide +kernel
theorem dX8_act_39 : decode cX8_act 39 = .ok (.getfield 96, 3) := by decide +kernel
theorem dX8_act_42 : decode cX8_act 42 = .ok (.iload_n 1, 1) := by decide +kernel
theorem dX8_act_43 : decode cX8_act 43 = .ok (.aaload, 1) := by decide +kernel
theorem dX8_act_44 : decode cX8_act 44 = .ok (.iload_n 2, 1) := by decide +kernel
theorem dX8_act_45 : decode cX8_act 45 = .ok (.iload_n 3, 1) := by decide +kernel
theorem dX8_act_46 : decode cX8_act 46 = .ok (.invokevirtual 328, 3) := by decide +kernel
theorem dX8_act_49 : decode cX8_act 49 = .ok (.ireturn, 1) := by decide +kernel
theorem dX8_trace_0 : decode cX8_trace 0 = .ok (.iload_n 1, 1) := by decide +kernel
theorem dX8_trace_1 : decode cX8_trace 1 = .ok (.ifCond .lt 19, 3) := by decide +kernel
theorem dX8_trace_4 : decode cX8_trace 4 = .ok (.iload_n 1, 1) := by decide +kernel
theorem dX8_trace_5 : decode cX8_trace 5 = .ok (.aload_n 0, 1) := by decide +kernel
theorem dX8_trace_6 : decode cX8_trace 6 = .ok (.getfield 59, 3) := by decide +kernel
theorem dX8_trace_9 : decode cX8_trace 9 = .ok (.getfield 325, 3) := by decide +kernel
theorem dX8_trace_12 : decode cX8_trace 12 = .ok (.bipush 20, 2) := by decide +kernel
theorem dX8_trace_14 : decode cX8_trace 14 = .ok (.invokestatic 332, 3) := by decide +kernel
theorem dX8_trace_17 : decode cX8_trace 17 = .ok (.if_icmp .lt 7, 3) := by decide +kernel
theorem dX8_trace_20 : decode cX8_trace 20 = .ok (.iconst (-1), 1) := by decide +kernel
theorem dX8_trace_21 : decode cX8_trace 21 = .ok (.goto 12, 3) := by decide +kernel
theorem dX8_trace_24 : decode cX8_trace 24 = .ok (.aload_n 0, 1) := by decide +kernel
theorem dX8_trace_25 : decode cX8_trace 25 = .ok (.getfield 59, 3) := by decide +kernel
theorem dX8_trace_28 : decode cX8_trace 28 = .ok (.getfield 335, 3) := by decide +kernel
theorem dX8_trace_31 : decode cX8_trace 31 = .ok (.iload_n 1, 1) := by decide +kernel
theorem dX8_trace_32 : decode cX8_trace 32 = .ok (.iaload, 1) := by decide +kernel
theorem dX8_trace_33 : decode cX8_trace 33 = .ok (.ireturn, 1) := by decide +kernel
theorem dX8_taken_0 : decode cX8_taken 0 = .ok (.iload_n 2, 1) := by decide +kernel
theorem dX8_taken_1 : decode cX8_taken 1 = .ok (.ifCond .lt 9, 3) := by decide +kernel
theorem dX8_taken_4 : decode cX8_taken 4 = .ok (.iload_n 2, 1) := by decide +kernel
theorem dX8_taken_5 : decode cX8_taken 5 = .ok (.bipush 7, 2) := by decide +kernel
theorem dX8_taken_7 : decode cX8_taken 7 = .ok (.if_icmp .lt 6, 3) := by decide +kernel
theorem dX8_taken_10 : decode cX8_taken 10 = .ok (.bipush (-2), 2) := by decide +kernel
theorem dX8_taken_12 : decode cX8_taken 12 = .ok (.ireturn, 1) := by decide +kernel
theorem dX8_taken_13 : decode cX8_taken 13 = .ok (.aload_n 0, 1) := by decide +kernel
theorem dX8_taken_14 : decode cX8_taken 14 = .ok (.getfield 12, 3) := by decide +kernel
theorem dX8_taken_17 : decode cX8_taken 17 = .ok (.iload_n 1, 1) := by decide +kernel
theorem dX8_taken_18 : decode cX8_taken 18 = .ok (.invokevirtual 93, 3) := by decide +kernel
theorem dX8_taken_21 : decode cX8_taken 21 = .ok (.ifCond .ne 6, 3) := by decide +kernel
theorem dX8_taken_24 : decode cX8_taken 24 = .ok (.bipush (-11), 2) := by decide +kernel
theorem dX8_taken_26 : decode cX8_taken 26 = .ok (.ireturn, 1) := by decide +kernel
theorem dX8_taken_27 : decode cX8_taken 27 = .ok (.aload_n 0, 1) := by decide +kernel
theorem dX8_taken_28 : decode cX8_taken 28 = .ok (.getfield 12, 3) := by decide +kernel
theorem dX8_taken_31 : decode cX8_taken 31 = .ok (.getfield 96, 3) := by decide +kernel
theorem dX8_taken_34 : decode cX8_taken 34 = .ok (.iload_n 1, 1) := by decide +kernel
theorem dX8_taken_35 : decode cX8_taken 35 = .ok (.aaload, 1) := by decide +kernel
theorem dX8_taken_36 : decode cX8_taken 36 = .ok (.getfield 100, 3) := by decide +kernel
theorem dX8_taken_39 : decode cX8_taken 39 = .ok (.istore_n 3, 1) := by decide +kernel
theorem dX8_taken_40 : decode cX8_taken 40 = .ok (.iload_n 3, 1) := by decide +kernel
theorem dX8_taken_41 : decode cX8_taken 41 = .ok (.iload_n 2, 1) := by decide +kernel
theorem dX8_taken_42 : decode cX8_taken 42 = .ok (.invokestatic 338, 3) := by decide +kernel
theorem dX8_taken_45 : decode cX8_taken 45 = .ok (.ifCond .eq 7, 3) := by decide +kernel
theorem dX8_taken_48 : decode cX8_taken 48 = .ok (.iload_n 3, 1) := by decide +kernel
theorem dX8_taken_49 : decode cX8_taken 49 = .ok (.goto 5, 3) := by decide +kernel
theorem dX8_taken_52 : decode cX8_taken 52 = .ok (.bipush (-12), 2) := by decide +kernel
theorem dX8_taken_54 : decode cX8_taken 54 = .ok (.ireturn, 1) := by decide +kernel
theorem dX8_isUnder_0 : decode cX8_isUnder 0 = .ok (.iload_n 0, 1) := by decide +kernel
theorem dX8_isUnder_1 : decode cX8_isUnder 1 = .ok (.istore_n 2, 1) := by decide +kernel
theorem dX8_isUnder_2 : decode cX8_isUnder 2 = .ok (.iconst 0, 1) := by decide +kernel
theorem dX8_isUnder_3 : decode cX8_isUnder 3 = .ok (.istore_n 3, 1) := by decide +kernel
theorem dX8_isUnder_4 : decode cX8_isUnder 4 = .ok (.iload_n 3, 1) := by decide +kernel
theorem dX8_isUnder_5 : decode cX8_isUnder 5 = .ok (.bipush 7, 2) := by decide +kernel
theorem dX8_isUnder_7 : decode cX8_isUnder 7 = .ok (.if_icmp .ge 24, 3) := by decide +kernel
theorem dX8_isUnder_10 : decode cX8_isUnder 10 = .ok (.iload_n 2, 1) := by decide +kernel
theorem dX8_isUnder_11 : decode cX8_isUnder 11 = .ok (.ifCond .lt 20, 3) := by decide +kernel
theorem dX8_isUnder_14 : decode cX8_isUnder 14 = .ok (.iload_n 2, 1) := by decide +kernel
theorem dX8_isUnder_15 : decode cX8_isUnder 15 = .ok (.iload_n 1, 1) := by decide +kernel
theorem dX8_isUnder_16 : decode cX8_isUnder 16 = .ok (.if_icmp .eq 15, 3) := by decide +kernel
theorem dX8_isUnder_19 : decode cX8_isUnder 19 = .ok (.getstatic 341, 3) := by decide +kernel
theorem dX8_isUnder_22 : decode cX8_isUnder 22 = .ok (.iload_n 2, 1) := by decide +kernel
theorem dX8_isUnder_23 : decode cX8_isUnder 23 = .ok (.iaload, 1) := by decide +kernel
theorem dX8_isUnder_24 : decode cX8_isUnder 24 = .ok (.istore_n 2, 1) := by decide +kernel
theorem dX8_isUnder_25 : decode cX8_isUnder 25 = .ok (.iinc 3 1, 3) := by decide +kernel
theorem dX8_isUnder_28 : decode cX8_isUnder 28 = .ok (.goto (-24), 3) := by decide +kernel
theorem dX8_isUnder_31 : decode cX8_isUnder 31 = .ok (.iload_n 2, 1) := by decide +kernel
theorem dX8_isUnder_32 : decode cX8_isUnder 32 = .ok (.iload_n 1, 1) := by decide +kernel
theorem dX8_isUnder_33 : decode cX8_isUnder 33 = .ok (.if_icmp .ne 7, 3) := by decide +kernel
theorem dX8_isUnder_36 : decode cX8_isUnder 36 = .ok (.iconst 1, 1) := by decide +kernel
theorem dX8_isUnder_37 : decode cX8_isUnder 37 = .ok (.goto 4, 3) := by decide +kernel
theorem dX8_isUnder_40 : decode cX8_isUnder 40 = .ok (.iconst 0, 1) := by decide +kernel
theorem dX8_isUnder_41 : decode cX8_isUnder 41 = .ok (.ireturn, 1) := by decide +kernel
theorem dX8_count_0 : decode cX8_count 0 = .ok (.iload_n 1, 1) := by decide +kernel
theorem dX8_count_1 : decode cX8_count 1 = .ok (.tableswitch 120 0 8 #[51, 59, 67, 72, 80, 88, 96, 104, 112], 51) := by decide +kernel
theorem dX8_count_52 : decode cX8_count 52 = .ok (.aload_n 0, 1) := by decide +kernel
theorem dX8_count_53 : decode cX8_count 53 = .ok (.getfield 12, 3) := by decide +kernel
theorem dX8_count_56 : decode cX8_count 56 = .ok (.getfield 86, 3) := by decide +kernel
theorem dX8_count_59 : decode cX8_count 59 = .ok (.ireturn, 1) := by decide +kernel
theorem dX8_count_60 : decode cX8_count 60 = .ok (.aload_n 0, 1) := by decide +kernel
theorem dX8_count_61 : decode cX8_count 61 = .ok (.getfield 12, 3) := by decide +kernel
theorem dX8_count_64 : decode cX8_count 64 = .ok (.getfield 75, 3) := by decide +kernel
theorem dX8_count_67 : decode cX8_count 67 = .ok (.ireturn, 1) := by decide +kernel
theorem dX8_count_68 : decode cX8_count 68 = .ok (.aload_n 0, 1) := by decide +kernel
theorem dX8_count_69 : decode cX8_count 69 = .ok (.getfield 171, 3) := by decide +kernel
theorem dX8_count_72 : decode cX8_count 72 = .ok (.ireturn, 1) := by decide +kernel
theorem dX8_count_73 : decode cX8_count 73 = .ok (.aload_n 0, 1) := by decide +kernel
theorem dX8_count_74 : decode cX8_count 74 = .ok (.getfield 12, 3) := by decide +kernel
theorem dX8_count_77 : decode cX8_count 77 = .ok (.getfield 159, 3) := by decide +kernel
theorem dX8_count_80 : decode cX8_count 80 = .ok (.ireturn, 1) := by decide +kernel
theorem dX8_count_81 : decode cX8_count 81 = .ok (.aload_n 0, 1) := by decide +kernel
theorem dX8_count_82 : decode cX8_count 82 = .ok (.getfield 26, 3) := by decide +kernel
theorem dX8_count_85 : decode cX8_count 85 = .ok (.getfield 252, 3) := by decide +kernel
theorem dX8_count_88 : decode cX8_count 88 = .ok (.ireturn, 1) := by decide +kernel
theorem dX8_count_89 : decode cX8_count 89 = .ok (.aload_n 0, 1) := by decide +kernel
theorem dX8_count_90 : decode cX8_count 90 = .ok (.getfield 30, 3) := by decide +kernel
theorem dX8_count_93 : decode cX8_count 93 = .ok (.getfield 252, 3) := by decide +kernel
theorem dX8_count_96 : decode cX8_count 96 = .ok (.ireturn, 1) := by decide +kernel
theorem dX8_count_97 : decode cX8_count 97 = .ok (.aload_n 0, 1) := by decide +kernel
theorem dX8_count_98 : decode cX8_count 98 = .ok (.getfield 33, 3) := by decide +kernel
theorem dX8_count_101 : decode cX8_count 101 = .ok (.getfield 252, 3) := by decide +kernel
theorem dX8_count_104 : decode cX8_count 104 = .ok (.ireturn, 1) := by decide +kernel
theorem dX8_count_105 : decode cX8_count 105 = .ok (.aload_n 0, 1) := by decide +kernel
theorem dX8_count_106 : decode cX8_count 106 = .ok (.getfield 46, 3) := by decide +kernel
theorem dX8_count_109 : decode cX8_count 109 = .ok (.getfield 165, 3) := by decide +kernel
theorem dX8_count_112 : decode cX8_count 112 = .ok (.ireturn, 1) := by decide +kernel
theorem dX8_count_113 : decode cX8_count 113 = .ok (.aload_n 0, 1) := by decide +kernel
theorem dX8_count_114 : decode cX8_count 114 = .ok (.getfield 59, 3) := by decide +kernel
theorem dX8_count_117 : decode cX8_count 117 = .ok (.getfield 325, 3) := by decide +kernel
theorem dX8_count_120 : decode cX8_count 120 = .ok (.ireturn, 1) := by decide +kernel
theorem dX8_count_121 : decode cX8_count 121 = .ok (.bipush (-2), 2) := by decide +kernel
theorem dX8_count_123 : decode cX8_count 123 = .ok (.ireturn, 1) := by decide +kernel
theorem dX8_tape_0 : decode cX8_tape 0 = .ok (.iload_n 1, 1) := by decide +kernel
theorem dX8_tape_1 : decode cX8_tape 1 = .ok (.invokestatic 302, 3) := by decide +kernel
theorem dX8_tape_4 : decode cX8_tape 4 = .ok (.ifCond .ne 5, 3) := by decide +kernel
theorem dX8_tape_7 : decode cX8_tape 7 = .ok (.iconst (-1), 1) := by decide +kernel
theorem dX8_tape_8 : decode cX8_tape 8 = .ok (.ireturn, 1) := by decide +kernel
theorem dX8_tape_9 : decode cX8_tape 9 = .ok (.iload_n 2, 1) := by decide +kernel
theorem dX8_tape_10 : decode cX8_tape 10 = .ok (.iconst (-1), 1) := by decide +kernel
theorem dX8_tape_11 : decode cX8_tape 11 = .ok (.if_icmp .ne 16, 3) := by decide +kernel
theorem dX8_tape_14 : decode cX8_tape 14 = .ok (.aload_n 0, 1) := by decide +kernel
theorem dX8_tape_15 : decode cX8_tape 15 = .ok (.getfield 65, 3) := by decide +kernel
theorem dX8_tape_18 : decode cX8_tape 18 = .ok (.iload_n 1, 1) := by decide +kernel
theorem dX8_tape_19 : decode cX8_tape 19 = .ok (.aaload, 1) := by decide +kernel
theorem dX8_tape_20 : decode cX8_tape 20 = .ok (.iload_n 2, 1) := by decide +kernel
theorem dX8_tape_21 : decode cX8_tape 21 = .ok (.iconst 0, 1) := by decide +kernel
theorem dX8_tape_22 : decode cX8_tape 22 = .ok (.invokevirtual 344, 3) := by decide +kernel
theorem dX8_tape_25 : decode cX8_tape 25 = .ok (.iconst 1, 1) := by decide +kernel
theorem dX8_tape_26 : decode cX8_tape 26 = .ok (.ireturn, 1) := by decide +kernel
theorem dX8_tape_27 : decode cX8_tape 27 = .ok (.iload_n 2, 1) := by decide +kernel
theorem dX8_tape_28 : decode cX8_tape 28 = .ok (.ifCond .lt 14, 3) := by decide +kernel
theorem dX8_tape_31 : decode cX8_tape 31 = .ok (.iload_n 2, 1) := by decide +kernel
theorem dX8_tape_32 : decode cX8_tape 32 = .ok (.iconst 4, 1) := by decide +kernel
theorem dX8_tape_33 : decode cX8_tape 33 = .ok (.if_icmp .gt 9, 3) := by decide +kernel
theorem dX8_tape_36 : decode cX8_tape 36 = .ok (.iload_n 3, 1) := by decide +kernel
theorem dX8_tape_37 : decode cX8_tape 37 = .ok (.bipush 60, 2) := by decide +kernel
theorem dX8_tape_39 : decode cX8_tape 39 = .ok (.if_icmp .le 6, 3) := by decide +kernel
theorem dX8_tape_42 : decode cX8_tape 42 = .ok (.bipush (-2), 2) := by decide +kernel
theorem dX8_tape_44 : decode cX8_tape 44 = .ok (.ireturn, 1) := by decide +kernel
theorem dX8_tape_45 : decode cX8_tape 45 = .ok (.iload_n 3, 1) := by decide +kernel
theorem dX8_tape_46 : decode cX8_tape 46 = .ok (.ifCond .ge 6, 3) := by decide +kernel
theorem dX8_tape_49 : decode cX8_tape 49 = .ok (.bipush (-14), 2) := by decide +kernel
theorem dX8_tape_51 : decode cX8_tape 51 = .ok (.ireturn, 1) := by decide +kernel
theorem dX8_tape_52 : decode cX8_tape 52 = .ok (.aload_n 0, 1) := by decide +kernel
theorem dX8_tape_53 : decode cX8_tape 53 = .ok (.getfield 65, 3) := by decide +kernel
theorem dX8_tape_56 : decode cX8_tape 56 = .ok (.iload_n 1, 1) := by decide +kernel
theorem dX8_tape_57 : decode cX8_tape 57 = .ok (.aaload, 1) := by decide +kernel
theorem dX8_tape_58 : decode cX8_tape 58 = .ok (.iload_n 2, 1) := by decide +kernel
theorem dX8_tape_59 : decode cX8_tape 59 = .ok (.iload_n 3, 1) := by decide +kernel
theorem dX8_tape_60 : decode cX8_tape 60 = .ok (.invokevirtual 344, 3) := by decide +kernel
theorem dX8_tape_63 : decode cX8_tape 63 = .ok (.iconst 1, 1) := by decide +kernel
theorem dX8_tape_64 : decode cX8_tape 64 = .ok (.ireturn, 1) := by decide +kernel
theorem dX8_item_0 : decode cX8_item 0 = .ok (.iload_n 1, 1) := by decide +kernel
theorem dX8_item_1 : decode cX8_item 1 = .ok (.invokestatic 302, 3) := by decide +kernel
theorem dX8_item_4 : decode cX8_item 4 = .ok (.ifCond .ne 5, 3) := by decide +kernel
theorem dX8_item_7 : decode cX8_item 7 = .ok (.iconst (-1), 1) := by decide +kernel
theorem dX8_item_8 : decode cX8_item 8 = .ok (.ireturn, 1) := by decide +kernel
theorem dX8_item_9 : decode cX8_item 9 = .ok (.aload_n 0, 1) := by decide +kernel
theorem dX8_item_10 : decode cX8_item 10 = .ok (.getfield 65, 3) := by decide +kernel
theorem dX8_item_13 : decode cX8_item 13 = .ok (.iload_n 1, 1) := by decide +kernel
theorem dX8_item_14 : decode cX8_item 14 = .ok (.aaload, 1) := by decide +kernel
theorem dX8_item_15 : decode cX8_item 15 = .ok (.astore 5, 2) := by decide +kernel
theorem dX8_item_17 : decode cX8_item 17 = .ok (.aload 5, 2) := by decide +kernel
theorem dX8_item_19 : decode cX8_item 19 = .ok (.getfield 305, 3) := by decide +kernel
theorem dX8_item_22 : decode cX8_item 22 = .ok (.iconst (-1), 1) := by decide +kernel
theorem dX8_item_23 : decode cX8_item 23 = .ok (.if_icmp .ne 6, 3) := by decide +kernel
theorem dX8_item_26 : decode cX8_item 26 = .ok (.bipush (-11), 2) := by decide +kernel
theorem dX8_item_28 : decode cX8_item 28 = .ok (.ireturn, 1) := by decide +kernel
theorem dX8_item_29 : decode cX8_item 29 = .ok (.aload 5, 2) := by decide +kernel
theorem dX8_item_31 : decode cX8_item 31 = .ok (.iload_n 2, 1) := by decide +kernel
theorem dX8_item_32 : decode cX8_item 32 = .ok (.invokevirtual 347, 3) := by decide +kernel
theorem dX8_item_35 : decode cX8_item 35 = .ok (.ifCond .ne 6, 3) := by decide +kernel
theorem dX8_item_38 : decode cX8_item 38 = .ok (.bipush (-13), 2) := by decide +kernel
theorem dX8_item_40 : decode cX8_item 40 = .ok (.ireturn, 1) := by decide +kernel
theorem dX8_item_41 : decode cX8_item 41 = .ok (.aload 5, 2) := by decide +kernel
theorem dX8_item_43 : decode cX8_item 43 = .ok (.getfield 309, 3) := by decide +kernel
theorem dX8_item_46 : decode cX8_item 46 = .ok (.iload_n 2, 1) := by decide +kernel
theorem dX8_item_47 : decode cX8_item 47 = .ok (.aload 5, 2) := by decide +kernel
theorem dX8_item_49 : decode cX8_item 49 = .ok (.lload_n 3, 1) := by decide +kernel
theorem dX8_item_50 : decode cX8_item 50 = .ok (.invokevirtual 350, 3) := by decide +kernel
theorem dX8_item_53 : decode cX8_item 53 = .ok (.lastore, 1) := by decide +kernel
theorem dX8_item_54 : decode cX8_item 54 = .ok (.iconst 1, 1) := by decide +kernel
theorem dX8_item_55 : decode cX8_item 55 = .ok (.ireturn, 1) := by decide +kernel
theorem dX8_read_0 : decode cX8_read 0 = .ok (.iload_n 1, 1) := by decide +kernel
theorem dX8_read_1 : decode cX8_read 1 = .ok (.invokestatic 302, 3) := by decide +kernel
theorem dX8_read_4 : decode cX8_read 4 = .ok (.ifCond .eq 30, 3) := by decide +kernel
theorem dX8_read_7 : decode cX8_read 7 = .ok (.aload_n 0, 1) := by decide +kernel
theorem dX8_read_8 : decode cX8_read 8 = .ok (.getfield 65, 3) := by decide +kernel
theorem dX8_read_11 : decode cX8_read 11 = .ok (.iload_n 1, 1) := by decide +kernel
theorem dX8_read_12 : decode cX8_read 12 = .ok (.aaload, 1) := by decide +kernel
theorem dX8_read_13 : decode cX8_read 13 = .ok (.iload_n 2, 1) := by decide +kernel
theorem dX8_read_14 : decode cX8_read 14 = .ok (.invokevirtual 347, 3) := by decide +kernel
theorem dX8_read_17 : decode cX8_read 17 = .ok (.ifCond .eq 17, 3) := by decide +kernel
theorem dX8_read_20 : decode cX8_read 20 = .ok (.aload_n 0, 1) := by decide +kernel
theorem dX8_read_21 : decode cX8_read 21 = .ok (.getfield 65, 3) := by decide +kernel
theorem dX8_read_24 : decode cX8_read 24 = .ok (.iload_n 1, 1) := by decide +kernel
theorem dX8_read_25 : decode cX8_read 25 = .ok (.aaload, 1) := by decide +kernel
theorem dX8_read_26 : decode cX8_read 26 = .ok (.getfield 309, 3) := by decide +kernel
theorem dX8_read_29 : decode cX8_read 29 = .ok (.iload_n 2, 1) := by decide +kernel
theorem dX8_read_30 : decode cX8_read 30 = .ok (.laload, 1) := by decide +kernel
theorem dX8_read_31 : decode cX8_read 31 = .ok (.goto 6, 3) := by decide +kernel
theorem dX8_read_34 : decode cX8_read 34 = .ok (.ldc2_w 293, 3) := by decide +kernel
theorem dX8_read_37 : decode cX8_read 37 = .ok (.lreturn, 1) := by decide +kernel
theorem dX8_shift_0 : decode cX8_shift 0 = .ok (.iload_n 1, 1) := by decide +kernel
theorem dX8_shift_1 : decode cX8_shift 1 = .ok (.invokestatic 302, 3) := by decide +kernel
theorem dX8_shift_4 : decode cX8_shift 4 = .ok (.ifCond .eq 10, 3) := by decide +kernel
theorem dX8_shift_7 : decode cX8_shift 7 = .ok (.iload_n 3, 1) := by decide +kernel
theorem dX8_shift_8 : decode cX8_shift 8 = .ok (.invokestatic 302, 3) := by decide +kernel
theorem dX8_shift_11 : decode cX8_shift 11 = .ok (.ifCond .ne 5, 3) := by decide +kernel
theorem dX8_shift_14 : decode cX8_shift 14 = .ok (.iconst (-1), 1) := by decide +kernel
theorem dX8_shift_15 : decode cX8_shift 15 = .ok (.ireturn, 1) := by decide +kernel
theorem dX8_shift_16 : decode cX8_shift 16 = .ok (.aload_n 0, 1) := by decide +kernel
theorem dX8_shift_17 : decode cX8_shift 17 = .ok (.getfield 65, 3) := by decide +kernel
theorem dX8_shift_20 : decode cX8_shift 20 = .ok (.iload_n 1, 1) := by decide +kernel
theorem dX8_shift_21 : decode cX8_shift 21 = .ok (.aaload, 1) := by decide +kernel
theorem dX8_shift_22 : decode cX8_shift 22 = .ok (.astore 6, 2) := by decide +kernel
theorem dX8_shift_24 : decode cX8_shift 24 = .ok (.aload_n 0, 1) := by decide +kernel
theorem dX8_shift_25 : decode cX8_shift 25 = .ok (.getfield 65, 3) := by decide +kernel
theorem dX8_shift_28 : decode cX8_shift 28 = .ok (.iload_n 3, 1) := by decide +kernel
theorem dX8_shift_29 : decode cX8_shift 29 = .ok (.aaload, 1) := by decide +kernel
theorem dX8_shift_30 : decode cX8_shift 30 = .ok (.astore 7, 2) := by decide +kernel
theorem dX8_shift_32 : decode cX8_shift 32 = .ok (.aload 6, 2) := by decide +kernel
theorem dX8_shift_34 : decode cX8_shift 34 = .ok (.getfield 305, 3) := by decide +kernel
theorem dX8_shift_37 : decode cX8_shift 37 = .ok (.iconst (-1), 1) := by decide +kernel
theorem dX8_shift_38 : decode cX8_shift 38 = .ok (.if_icmp .eq 12, 3) := by decide +kernel
theorem dX8_shift_41 : decode cX8_shift 41 = .ok (.aload 7, 2) := by decide +kernel
theorem dX8_shift_43 : decode cX8_shift 43 = .ok (.getfield 305, 3) := by decide +kernel
theorem dX8_shift_46 : decode cX8_shift 46 = .ok (.iconst (-1), 1) := by decide +kernel
theorem dX8_shift_47 : decode cX8_shift 47 = .ok (.if_icmp .ne 6, 3) := by decide +kernel
theorem dX8_shift_50 : decode cX8_shift 50 = .ok (.bipush (-11), 2) := by decide +kernel
theorem dX8_shift_52 : decode cX8_shift 52 = .ok (.ireturn, 1) := by decide +kernel
theorem dX8_shift_53 : decode cX8_shift 53 = .ok (.aload 6, 2) := by decide +kernel
theorem dX8_shift_55 : decode cX8_shift 55 = .ok (.getfield 305, 3) := by decide +kernel
theorem dX8_shift_58 : decode cX8_shift 58 = .ok (.aload 7, 2) := by decide +kernel
theorem dX8_shift_60 : decode cX8_shift 60 = .ok (.getfield 305, 3) := by decide +kernel
theorem dX8_shift_63 : decode cX8_shift 63 = .ok (.if_icmp .eq 6, 3) := by decide +kernel
theorem dX8_shift_66 : decode cX8_shift 66 = .ok (.bipush (-12), 2) := by decide +kernel
theorem dX8_shift_68 : decode cX8_shift 68 = .ok (.ireturn, 1) := by decide +kernel
theorem dX8_shift_69 : decode cX8_shift 69 = .ok (.aload 6, 2) := by decide +kernel
theorem dX8_shift_71 : decode cX8_shift 71 = .ok (.iload_n 2, 1) := by decide +kernel
theorem dX8_shift_72 : decode cX8_shift 72 = .ok (.iload 5, 2) := by decide +kernel
theorem dX8_shift_74 : decode cX8_shift 74 = .ok (.invokevirtual 354, 3) := by decide +kernel
theorem dX8_shift_77 : decode cX8_shift 77 = .ok (.ifCond .eq 15, 3) := by decide +kernel
theorem dX8_shift_80 : decode cX8_shift 80 = .ok (.aload 7, 2) := by decide +kernel
theorem dX8_shift_82 : decode cX8_shift 82 = .ok (.iload 4, 2) := by decide +kernel
theorem dX8_shift_84 : decode cX8_shift 84 = .ok (.iload 5, 2) := by decide +kernel
theorem dX8_shift_86 : decode cX8_shift 86 = .ok (.invokevirtual 354, 3) := by decide +kernel
theorem dX8_shift_89 : decode cX8_shift 89 = .ok (.ifCond .ne 6, 3) := by decide +kernel
theorem dX8_shift_92 : decode cX8_shift 92 = .ok (.bipush (-13), 2) := by decide +kernel
theorem dX8_shift_94 : decode cX8_shift 94 = .ok (.ireturn, 1) := by decide +kernel
theorem dX8_shift_95 : decode cX8_shift 95 = .ok (.aload 6, 2) := by decide +kernel
theorem dX8_shift_97 : decode cX8_shift 97 = .ok (.getfield 309, 3) := by decide +kernel
theorem dX8_shift_100 : decode cX8_shift 100 = .ok (.iload_n 2, 1) := by decide +kernel
theorem dX8_shift_101 : decode cX8_shift 101 = .ok (.aload 7, 2) := by decide +kernel
theorem dX8_shift_103 : decode cX8_shift 103 = .ok (.getfield 309, 3) := by decide +kernel
theorem dX8_shift_106 : decode cX8_shift 106 = .ok (.iload 4, 2) := by decide +kernel
theorem dX8_shift_108 : decode cX8_shift 108 = .ok (.iload 5, 2) := by decide +kernel
theorem dX8_shift_110 : decode cX8_shift 110 = .ok (.invokestatic 357, 3) := by decide +kernel
theorem dX8_shift_113 : decode cX8_shift 113 = .ok (.iload 5, 2) := by decide +kernel
theorem dX8_shift_115 : decode cX8_shift 115 = .ok (.ireturn, 1) := by decide +kernel
theorem dX8_isPlace_0 : decode cX8_isPlace 0 = .ok (.iload_n 0, 1) := by decide +kernel
theorem dX8_isPlace_1 : decode cX8_isPlace 1 = .ok (.ifCond .lt 13, 3) := by decide +kernel
theorem dX8_isPlace_4 : decode cX8_isPlace 4 = .ok (.iload_n 0, 1) := by decide +kernel
theorem dX8_isPlace_5 : decode cX8_isPlace 5 = .ok (.bipush 30, 2) := by decide +kernel
theorem dX8_isPlace_7 : decode cX8_isPlace 7 = .ok (.if_icmp .ge 7, 3) := by decide +kernel
theorem dX8_isPlace_10 : decode cX8_isPlace 10 = .ok (.iconst 1, 1) := by decide +kernel
theorem dX8_isPlace_11 : decode cX8_isPlace 11 = .ok (.goto 4, 3) := by decide +kernel
theorem dX8_isPlace_14 : decode cX8_isPlace 14 = .ok (.iconst 0, 1) := by decide +kernel
theorem dX8_isPlace_15 : decode cX8_isPlace 15 = .ok (.ireturn, 1) := by decide +kernel
theorem dX8_isDigit_0 : decode cX8_isDigit 0 = .ok (.iload_n 0, 1) := by decide +kernel
theorem dX8_isDigit_1 : decode cX8_isDigit 1 = .ok (.ifCond .lt 13, 3) := by decide +kernel
theorem dX8_isDigit_4 : decode cX8_isDigit 4 = .ok (.iload_n 0, 1) := by decide +kernel
theorem dX8_isDigit_5 : decode cX8_isDigit 5 = .ok (.bipush 9, 2) := by decide +kernel
theorem dX8_isDigit_7 : decode cX8_isDigit 7 = .ok (.if_icmp .gt 7, 3) := by decide +kernel
theorem dX8_isDigit_10 : decode cX8_isDigit 10 = .ok (.iconst 1, 1) := by decide +kernel
theorem dX8_isDigit_11 : decode cX8_isDigit 11 = .ok (.goto 4, 3) := by decide +kernel
theorem dX8_isDigit_14 : decode cX8_isDigit 14 = .ok (.iconst 0, 1) := by decide +kernel
theorem dX8_isDigit_15 : decode cX8_isDigit 15 = .ok (.ireturn, 1) := by decide +kernel
theorem dX8_isPart_0 : decode cX8_isPart 0 = .ok (.iload_n 0, 1) := by decide +kernel
theorem dX8_isPart_1 : decode cX8_isPart 1 = .ok (.ifCond .eq 8, 3) := by decide +kernel
theorem dX8_isPart_4 : decode cX8_isPart 4 = .ok (.iload_n 0, 1) := by decide +kernel
theorem dX8_isPart_5 : decode cX8_isPart 5 = .ok (.iconst 1, 1) := by decide +kernel
theorem dX8_isPart_6 : decode cX8_isPart 6 = .ok (.if_icmp .ne 7, 3) := by decide +kernel
theorem dX8_isPart_9 : decode cX8_isPart 9 = .ok (.iconst 1, 1) := by decide +kernel
theorem dX8_isPart_10 : decode cX8_isPart 10 = .ok (.goto 4, 3) := by decide +kernel
theorem dX8_isPart_13 : decode cX8_isPart 13 = .ok (.iconst 0, 1) := by decide +kernel
theorem dX8_isPart_14 : decode cX8_isPart 14 = .ok (.ireturn, 1) := by decide +kernel
theorem dX8_isTape_0 : decode cX8_isTape 0 = .ok (.iload_n 0, 1) := by decide +kernel
theorem dX8_isTape_1 : decode cX8_isTape 1 = .ok (.ifCond .lt 13, 3) := by decide +kernel
theorem dX8_isTape_4 : decode cX8_isTape 4 = .ok (.iload_n 0, 1) := by decide +kernel
theorem dX8_isTape_5 : decode cX8_isTape 5 = .ok (.bipush 6, 2) := by decide +kernel
theorem dX8_isTape_7 : decode cX8_isTape 7 = .ok (.if_icmp .ge 7, 3) := by decide +kernel
theorem dX8_isTape_10 : decode cX8_isTape 10 = .ok (.iconst 1, 1) := by decide +kernel
theorem dX8_isTape_11 : decode cX8_isTape 11 = .ok (.goto 4, 3) := by decide +kernel
theorem dX8_isTape_14 : decode cX8_isTape 14 = .ok (.iconst 0, 1) := by decide +kernel
theorem dX8_isTape_15 : decode cX8_isTape 15 = .ok (.ireturn, 1) := by decide +kernel
theorem dX8_bit_0 : decode cX8_bit 0 = .ok (.iload_n 0, 1) := by decide +kernel
theorem dX8_bit_1 : decode cX8_bit 1 = .ok (.ifCond .eq 7, 3) := by decide +kernel
theorem dX8_bit_4 : decode cX8_bit 4 = .ok (.iconst 1, 1) := by decide +kernel
theorem dX8_bit_5 : decode cX8_bit 5 = .ok (.goto 4, 3) := by decide +kernel
theorem dX8_bit_8 : decode cX8_bit 8 = .ok (.iconst 0, 1) := by decide +kernel
theorem dX8_bit_9 : decode cX8_bit 9 = .ok (.ireturn, 1) := by decide +kernel
theorem dX9_init_0 : decode cX9_init 0 = .ok (.aload_n 0, 1) := by decide +kernel
theorem dX9_init_1 : decode cX9_init 1 = .ok (.invokespecial 1, 3) := by decide +kernel
theorem dX9_init_4 : decode cX9_init 4 = .ok (.aload_n 0, 1) := by decide +kernel
theorem dX9_init_5 : decode cX9_init 5 = .ok (.iconst 0, 1) := by decide +kernel
theorem dX9_init_6 : decode cX9_init 6 = .ok (.putfield 7, 3) := by decide +kernel
theorem dX9_init_9 : decode cX9_init 9 = .ok (.aload_n 0, 1) := by decide +kernel
theorem dX9_init_10 : decode cX9_init 10 = .ok (.iconst 0, 1) := by decide +kernel
theorem dX9_init_11 : decode cX9_init 11 = .ok (.putfield 13, 3) := by decide +kernel
theorem dX9_init_14 : decode cX9_init 14 = .ok (.aload_n 0, 1) := by decide +kernel
theorem dX9_init_15 : decode cX9_init 15 = .ok (.iconst 0, 1) := by decide +kernel
theorem dX9_init_16 : decode cX9_init 16 = .ok (.putfield 16, 3) := by decide +kernel
theorem dX9_init_19 : decode cX9_init 19 = .ok (.aload_n 0, 1) := by decide +kernel
theorem dX9_init_20 : decode cX9_init 20 = .ok (.iconst 0, 1) := by decide +kernel
theorem dX9_init_21 : decode cX9_init 21 = .ok (.putfield 19, 3) := by decide +kernel
theorem dX9_init_24 : decode cX9_init 24 = .ok (.aload_n 0, 1) := by decide +kernel
theorem dX9_init_25 : decode cX9_init 25 = .ok (.iconst 0, 1) := by decide +kernel
theorem dX9_init_26 : decode cX9_init 26 = .ok (.putfield 22, 3) := by decide +kernel
theorem dX9_init_29 : decode cX9_init 29 = .ok (.aload_n 0, 1) := by decide +kernel
theorem dX9_init_30 : decode cX9_init 30 = .ok (.iconst 0, 1) := by decide +kernel
theorem dX9_init_31 : decode cX9_init 31 = .ok (.putfield 25, 3) := by decide +kernel
theorem dX9_init_34 : decode cX9_init 34 = .ok (.aload_n 0, 1) := by decide +kernel
theorem dX9_init_35 : decode cX9_init 35 = .ok (.iconst 0, 1) := by decide +kernel
theorem dX9_init_36 : decode cX9_init 36 = .ok (.putfield 28, 3) := by decide +kernel
theorem dX9_init_39 : decode cX9_init 39 = .ok (.aload_n 0, 1) := by decide +kernel
theorem dX9_init_40 : decode cX9_init 40 = .ok (.iconst 0, 1) := by decide +kernel
theorem dX9_init_41 : decode cX9_init 41 = .ok (.putfield 31, 3) := by decide +kernel
theorem dX9_init_44 : decode cX9_init 44 = .ok (.aload_n 0, 1) := by decide +kernel
theorem dX9_init_45 : decode cX9_init 45 = .ok (.iconst 0, 1) := by decide +kernel
theorem dX9_init_46 : decode cX9_init 46 = .ok (.putfield 34, 3) := by decide +kernel
theorem dX9_init_49 : decode cX9_init 49 = .ok (.aload_n 0, 1) := by decide +kernel
theorem dX9_init_50 : decode cX9_init 50 = .ok (.bipush 6, 2) := by decide +kernel
theorem dX9_init_52 : decode cX9_init 52 = .ok (.newarray .int, 2) := by decide +kernel
theorem dX9_init_54 : decode cX9_init 54 = .ok (.putfield 37, 3) := by decide +kernel
theorem dX9_init_57 : decode cX9_init 57 = .ok (.aload_n 0, 1) := by decide +kernel
theorem dX9_init_58 : decode cX9_init 58 = .ok (.bipush 6, 2) := by decide +kernel
theorem dX9_init_60 : decode cX9_init 60 = .ok (.newarray .int, 2) := by decide +kernel
theorem dX9_init_62 : decode cX9_init 62 = .ok (.putfield 41, 3) := by decide +kernel
theorem dX9_init_65 : decode cX9_init 65 = .ok (.aload_n 0, 1) := by decide +kernel
theorem dX9_init_66 : decode cX9_init 66 = .ok (.bipush 6, 2) := by decide +kernel
theorem dX9_init_68 : decode cX9_init 68 = .ok (.newarray .int, 2) := by decide +kernel
theorem dX9_init_70 : decode cX9_init 70 = .ok (.putfield 44, 3) := by decide +kernel
theorem dX9_init_73 : decode cX9_init 73 = .ok (.aload_n 0, 1) := by decide +kernel
theorem dX9_init_74 : decode cX9_init 74 = .ok (.bipush 6, 2) := by decide +kernel
theorem dX9_init_76 : decode cX9_init 76 = .ok (.newarray .int, 2) := by decide +kernel
theorem dX9_init_78 : decode cX9_init 78 = .ok (.putfield 47, 3) := by decide +kernel
theorem dX9_init_81 : decode cX9_init 81 = .ok (.aload_n 0, 1) := by decide +kernel
theorem dX9_init_82 : decode cX9_init 82 = .ok (.bipush 6, 2) := by decide +kernel
theorem dX9_init_84 : decode cX9_init 84 = .ok (.newarray .int, 2) := by decide +kernel
theorem dX9_init_86 : decode cX9_init 86 = .ok (.putfield 50, 3) := by decide +kernel
theorem dX9_init_89 : decode cX9_init 89 = .ok (.aload_n 0, 1) := by decide +kernel
theorem dX9_init_90 : decode cX9_init 90 = .ok (.bipush 24, 2) := by decide +kernel
theorem dX9_init_92 : decode cX9_init 92 = .ok (.newarray .int, 2) := by decide +kernel
theorem dX9_init_94 : decode cX9_init 94 = .ok (.putfield 53, 3) := by decide +kernel
theorem dX9_init_97 : decode cX9_init 97 = .ok (.aload_n 0, 1) := by decide +kernel
theorem dX9_init_98 : decode cX9_init 98 = .ok (.bipush 6, 2) := by decide +kernel
theorem dX9_init_100 : decode cX9_init 100 = .ok (.newarray .int, 2) := by decide +kernel
theorem dX9_init_102 : decode cX9_init 102 = .ok (.putfield 56, 3) := by decide +kernel
theorem dX9_init_105 : decode cX9_init 105 = .ok (.aload_n 0, 1) := by decide +kernel
theorem dX9_init_106 : decode cX9_init 106 = .ok (.iconst 0, 1) := by decide +kernel
theorem dX9_init_107 : decode cX9_init 107 = .ok (.putfield 59, 3) := by decide +kernel
theorem dX9_init_110 : decode cX9_init 110 = .ok (.aload_n 0, 1) := by decide +kernel
theorem dX9_init_111 : decode cX9_init 111 = .ok (.iconst (-1), 1) := by decide +kernel
theorem dX9_init_112 : decode cX9_init 112 = .ok (.putfield 62, 3) := by decide +kernel
theorem dX9_init_115 : decode cX9_init 115 = .ok (.aload_n 0, 1) := by decide +kernel
theorem dX9_init_116 : decode cX9_init 116 = .ok (.iconst 0, 1) := by decide +kernel
theorem dX9_init_117 : decode cX9_init 117 = .ok (.putfield 65, 3) := by decide +kernel
theorem dX9_init_120 : decode cX9_init 120 = .ok (.aload_n 0, 1) := by decide +kernel
theorem dX9_init_121 : decode cX9_init 121 = .ok (.iconst 0, 1) := by decide +kernel
theorem dX9_init_122 : decode cX9_init 122 = .ok (.putfield 68, 3) := by decide +kernel
theorem dX9_init_125 : decode cX9_init 125 = .ok (.aload_n 0, 1) := by decide +kernel
theorem dX9_init_126 : decode cX9_init 126 = .ok (.iconst 0, 1) := by decide +kernel
theorem dX9_init_127 : decode cX9_init 127 = .ok (.putfield 71, 3) := by decide +kernel
theorem dX9_init_130 : decode cX9_init 130 = .ok (.aload_n 0, 1) := by decide +kernel
theorem dX9_init_131 : decode cX9_init 131 = .ok (.bipush 100, 2) := by decide +kernel
theorem dX9_init_133 : decode cX9_init 133 = .ok (.newarray .int, 2) := by decide +kernel
theorem dX9_init_135 : decode cX9_init 135 = .ok (.putfield 74, 3) := by decide +kernel
theorem dX9_init_138 : decode cX9_init 138 = .ok (.aload_n 0, 1) := by decide +kernel
theorem dX9_init_139 : decode cX9_init 139 = .ok (.bipush 6, 2) := by decide +kernel
theorem dX9_init_141 : decode cX9_init 141 = .ok (.newarray .int, 2) := by decide +kernel
theorem dX9_init_143 : decode cX9_init 143 = .ok (.putfield 77, 3) := by decide +kernel
theorem dX9_init_146 : decode cX9_init 146 = .ok (.aload_n 0, 1) := by decide +kernel
theorem dX9_init_147 : decode cX9_init 147 = .ok (.bipush 60, 2) := by decide +kernel
theorem dX9_init_149 : decode cX9_init 149 = .ok (.newarray .int, 2) := by decide +kernel
theorem dX9_init_151 : decode cX9_init 151 = .ok (.putfield 80, 3) := by decide +kernel
theorem dX9_init_154 : decode cX9_init 154 = .ok (.aload_n 0, 1) := by decide +kernel
theorem dX9_init_155 : decode cX9_init 155 = .ok (.bipush 60, 2) := by decide +kernel
theorem dX9_init_157 : decode cX9_init 157 = .ok (.newarray .int, 2) := by decide +kernel
theorem dX9_init_159 : decode cX9_init 159 = .ok (.putfield 83, 3) := by decide +kernel
theorem dX9_init_162 : decode cX9_init 162 = .ok (.aload_n 0, 1) := by decide +kernel
theorem dX9_init_163 : decode cX9_init 163 = .ok (.bipush 60, 2) := by decide +kernel
theorem dX9_init_165 : decode cX9_init 165 = .ok (.newarray .int, 2) := by decide +kernel
theorem dX9_init_167 : decode cX9_init 167 = .ok (.putfield 86, 3) := by decide +kernel
theorem dX9_init_170 : decode cX9_init 170 = .ok (.aload_n 0, 1) := by decide +kernel
theorem dX9_init_171 : decode cX9_init 171 = .ok (.bipush 60, 2) := by decide +kernel
theorem dX9_init_173 : decode cX9_init 173 = .ok (.newarray .int, 2) := by decide +kernel
theorem dX9_init_175 : decode cX9_init 175 = .ok (.putfield 89, 3) := by decide +kernel
theorem dX9_init_178 : decode cX9_init 178 = .ok (.aload_n 0, 1) := by decide +kernel
theorem dX9_init_179 : decode cX9_init 179 = .ok (.sipush 600, 3) := by decide +kernel
theorem dX9_init_182 : decode cX9_init 182 = .ok (.newarray .int, 2) := by decide +kernel
theorem dX9_init_184 : decode cX9_init 184 = .ok (.putfield 92, 3) := by decide +kernel
theorem dX9_init_187 : decode cX9_init 187 = .ok (.aload_n 0, 1) := by decide +kernel
theorem dX9_init_188 : decode cX9_init 188 = .ok (.bipush 101, 2) := by decide +kernel
theorem dX9_init_190 : decode cX9_init 190 = .ok (.newarray .int, 2) := by decide +kernel
theorem dX9_init_192 : decode cX9_init 192 = .ok (.putfield 95, 3) := by decide +kernel
theorem dX9_init_195 : decode cX9_init 195 = .ok (.aload_n 0, 1) := by decide +kernel
theorem dX9_init_196 : decode cX9_init 196 = .ok (.iconst 0, 1) := by decide +kernel
theorem dX9_init_197 : decode cX9_init 197 = .ok (.putfield 98, 3) := by decide +kernel
theorem dX9_init_200 : decode cX9_init 200 = .ok (.aload_n 0, 1) := by decide +kernel
theorem dX9_init_201 : decode cX9_init 201 = .ok (.iconst 0, 1) := by decide +kernel
theorem dX9_init_202 : decode cX9_init 202 = .ok (.putfield 101, 3) := by decide +kernel
theorem dX9_init_205 : decode cX9_init 205 = .ok (.aload_n 0, 1) := by decide +kernel
theorem dX9_init_206 : decode cX9_init 206 = .ok (.iconst 0, 1) := by decide +kernel
theorem dX9_init_207 : decode cX9_init 207 = .ok (.putfield 104, 3) := by decide +kernel
theorem dX9_init_210 : decode cX9_init 210 = .ok (.aload_n 0, 1) := by decide +kernel
theorem dX9_init_211 : decode cX9_init 211 = .ok (.bipush 16, 2) := by decide +kernel
theorem dX9_init_213 : decode cX9_init 213 = .ok (.newarray .int, 2) := by decide +kernel
theorem dX9_init_215 : decode cX9_init 215 = .ok (.dup, 1) := by decide +kernel
theorem dX9_init_216 : decode cX9_init 216 = .ok (.iconst 0, 1) := by decide +kernel
theorem dX9_init_217 : decode cX9_init 217 = .ok (.bipush 107, 2) := by decide +kernel
theorem dX9_init_219 : decode cX9_init 219 = .ok (.iastore, 1) := by decide +kernel
theorem dX9_init_220 : decode cX9_init 220 = .ok (.dup, 1) := by decide +kernel
theorem dX9_init_221 : decode cX9_init 221 = .ok (.iconst 1, 1) := by decide +kernel
theorem dX9_init_222 : decode cX9_init 222 = .ok (.bipush 101, 2) := by decide +kernel
theorem dX9_init_224 : decode cX9_init 224 = .ok (.iastore, 1) := by decide +kernel
theorem dX9_init_225 : decode cX9_init 225 = .ok (.dup, 1) := by decide +kernel
theorem dX9_init_226 : decode cX9_init 226 = .ok (.iconst 2, 1) := by decide +kernel
theorem dX9_init_227 : decode cX9_init 227 = .ok (.bipush 101, 2) := by decide +kernel
theorem dX9_init_229 : decode cX9_init 229 = .ok (.iastore, 1) := by decide +kernel
theorem dX9_init_230 : decode cX9_init 230 = .ok (.dup, 1) := by decide +kernel
theorem dX9_init_231 : decode cX9_init 231 = .ok (.iconst 3, 1) := by decide +kernel
theorem dX9_init_232 : decode cX9_init 232 = .ok (.bipush 110, 2) := by decide +kernel
theorem dX9_init_234 : decode cX9_init 234 = .ok (.iastore, 1) := by decide +kernel
theorem dX9_init_235 : decode cX9_init 235 = .ok (.dup, 1) := by decide +kernel
theorem dX9_init_236 : decode cX9_init 236 = .ok (.iconst 4, 1) := by decide +kernel
theorem dX9_init_237 : decode cX9_init 237 = .ok (.bipush 100, 2) := by decide +kernel
theorem dX9_init_239 : decode cX9_init 239 = .ok (.iastore, 1) := by decide +kernel
theorem dX9_init_240 : decode cX9_init 240 = .ok (.dup, 1) := by decide +kernel
theorem dX9_init_241 : decode cX9_init 241 = .ok (.iconst 5, 1) := by decide +kernel
theorem dX9_init_242 : decode cX9_init 242 = .ok (.bipush 101, 2) := by decide +kernel
theorem dX9_init_244 : decode cX9_init 244 = .ok (.iastore, 1) := by decide +kernel
theorem dX9_init_245 : decode cX9_init 245 = .ok (.dup, 1) := by decide +kernel
theorem dX9_init_246 : decode cX9_init 246 = .ok (.bipush 6, 2) := by decide +kernel
theorem dX9_init_248 : decode cX9_init 248 = .ok (.bipush 97, 2) := by decide +kernel
theorem dX9_init_250 : decode cX9_init 250 = .ok (.iastore, 1) := by decide +kernel
theorem dX9_init_251 : decode cX9_init 251 = .ok (.dup, 1) := by decide +kernel
theorem dX9_init_252 : decode cX9_init 252 = .ok (.bipush 7, 2) := by decide +kernel
theorem dX9_init_254 : decode cX9_init 254 = .ok (.bipush 102, 2) := by decide +kernel
theorem dX9_init_256 : decode cX9_init 256 = .ok (.iastore, 1) := by decide +kernel
theorem dX9_init_257 : decode cX9_init 257 = .ok (.dup, 1) := by decide +kernel
theorem dX9_init_258 : decode cX9_init 258 = .ok (.bipush 8, 2) := by decide +kernel
theorem dX9_init_260 : decode cX9_init 260 = .ok (.bipush 98, 2) := by decide +kernel
theorem dX9_init_262 : decode cX9_init 262 = .ok (.iastore, 1) := by decide +kernel
theorem dX9_init_263 : decode cX9_init 263 = .ok (.dup, 1) := by decide +kernel
theorem dX9_init_264 : decode cX9_init 264 = .ok (.bipush 9, 2) := by decide +kernel
theorem dX9_init_266 : decode cX9_init 266 = .ok (.bipush 101, 2) := by decide +kernel
theorem dX9_init_268 : decode cX9_init 268 = .ok (.iastore, 1) := by decide +kernel
theorem dX9_init_269 : decode cX9_init 269 = .ok (.dup, 1) := by decide +kernel
theorem dX9_init_270 : decode cX9_init 270 = .ok (.bipush 10, 2) := by decide +kernel
theorem dX9_init_272 : decode cX9_init 272 = .ok (.bipush 108, 2) := by decide +kernel
theorem dX9_init_274 : decode cX9_init 274 = .ok (.iastore, 1) := by decide +kernel
theorem dX9_init_275 : decode cX9_init 275 = .ok (.dup, 1) := by decide +kernel
theorem dX9_init_276 : decode cX9_init 276 = .ok (.bipush 11, 2) := by decide +kernel
theorem dX9_init_278 : decode cX9_init 278 = .ok (.bipush 108, 2) := by decide +kernel
theorem dX9_init_280 : decode cX9_init 280 = .ok (.iastore, 1) := by decide +kernel
theorem dX9_init_281 : decode cX9_init 281 = .ok (.dup, 1) := by decide +kernel
theorem dX9_init_282 : decode cX9_init 282 = .ok (.bipush 12, 2) := by decide +kernel
theorem dX9_init_284 : decode cX9_init 284 = .ok (.bipush 112, 2) := by decide +kernel
theorem dX9_init_286 : decode cX9_init 286 = .ok (.iastore, 1) := by decide +kernel
theorem dX9_init_287 : decode cX9_init 287 = .ok (.dup, 1) := by decide +kernel
theorem dX9_init_288 : decode cX9_init 288 = .ok (.bipush 13, 2) := by decide +kernel
theorem dX9_init_290 : decode cX9_init 290 = .ok (.bipush 97, 2) := by decide +kernel
theorem dX9_init_292 : decode cX9_init 292 = .ok (.iastore, 1) := by decide +kernel
theorem dX9_init_293 : decode cX9_init 293 = .ok (.dup, 1) := by decide +kernel
theorem dX9_init_294 : decode cX9_init 294 = .ok (.bipush 14, 2) := by decide +kernel
theorem dX9_init_296 : decode cX9_init 296 = .ok (.bipush 99, 2) := by decide +kernel
theorem dX9_init_298 : decode cX9_init 298 = .ok (.iastore, 1) := by decide +kernel
theorem dX9_init_299 : decode cX9_init 299 = .ok (.dup, 1) := by decide +kernel
theorem dX9_init_300 : decode cX9_init 300 = .ok (.bipush 15, 2) := by decide +kernel
theorem dX9_init_302 : decode cX9_init 302 = .ok (.bipush 101, 2) := by decide +kernel
theorem dX9_init_304 : decode cX9_init 304 = .ok (.iastore, 1) := by decide +kernel
theorem dX9_init_305 : decode cX9_init 305 = .ok (.putfield 107, 3) := by decide +kernel
theorem dX9_init_308 : decode cX9_init 308 = .ok (.aload_n 0, 1) := by decide +kernel
theorem dX9_init_309 : decode cX9_init 309 = .ok (.iconst (-1), 1) := by decide +kernel
theorem dX9_init_310 : decode cX9_init 310 = .ok (.putfield 110, 3) := by decide +kernel
theorem dX9_init_313 : decode cX9_init 313 = .ok (.aload_n 0, 1) := by decide +kernel
theorem dX9_init_314 : decode cX9_init 314 = .ok (.iconst 0, 1) := by decide +kernel
theorem dX9_init_315 : decode cX9_init 315 = .ok (.putfield 113, 3) := by decide +kernel
theorem dX9_init_318 : decode cX9_init 318 = .ok (.aload_n 0, 1) := by decide +kernel
theorem dX9_init_319 : decode cX9_init 319 = .ok (.iconst (-1), 1) := by decide +kernel
theorem dX9_init_320 : decode cX9_init 320 = .ok (.putfield 116, 3) := by decide +kernel
theorem dX9_init_323 : decode cX9_init 323 = .ok (.aload_n 0, 1) := by decide +kernel
theorem dX9_init_324 : decode cX9_init 324 = .ok (.bipush 100, 2) := by decide +kernel
theorem dX9_init_326 : decode cX9_init 326 = .ok (.newarray .boolean, 2) := by decide +kernel
theorem dX9_init_328 : decode cX9_init 328 = .ok (.putfield 119, 3) := by decide +kernel
theorem dX9_init_331 : decode cX9_init 331 = .ok (.aload_n 0, 1) := by decide +kernel
theorem dX9_init_332 : decode cX9_init 332 = .ok (.bipush 6, 2) := by decide +kernel
theorem dX9_init_334 : decode cX9_init 334 = .ok (.newarray .int, 2) := by decide +kernel
theorem dX9_init_336 : decode cX9_init 336 = .ok (.putfield 123, 3) := by decide +kernel
theorem dX9_init_339 : decode cX9_init 339 = .ok (.aload_n 0, 1) := by decide +kernel
theorem dX9_init_340 : decode cX9_init 340 = .ok (.iconst 0, 1) := by decide +kernel
theorem dX9_init_341 : decode cX9_init 341 = .ok (.putfield 126, 3) := by decide +kernel
theorem dX9_init_344 : decode cX9_init 344 = .ok (.aload_n 0, 1) := by decide +kernel
theorem dX9_init_345 : decode cX9_init 345 = .ok (.iconst 0, 1) := by decide +kernel
theorem dX9_init_346 : decode cX9_init 346 = .ok (.putfield 129, 3) := by decide +kernel
theorem dX9_init_349 : decode cX9_init 349 = .ok (.aload_n 0, 1) := by decide +kernel
theorem dX9_init_350 : decode cX9_init 350 = .ok (.iconst 0, 1) := by decide +kernel
theorem dX9_init_351 : decode cX9_init 351 = .ok (.putfield 132, 3) := by decide +kernel
theorem dX9_init_354 : decode cX9_init 354 = .ok (.aload_n 0, 1) := by decide +kernel
theorem dX9_init_355 : decode cX9_init 355 = .ok (.iconst 0, 1) := by decide +kernel
theorem dX9_init_356 : decode cX9_init 356 = .ok (.putfield 135, 3) := by decide +kernel
theorem dX9_init_359 : decode cX9_init 359 = .ok (.aload_n 0, 1) := by decide +kernel
theorem dX9_init_360 : decode cX9_init 360 = .ok (.iconst 0, 1) := by decide +kernel
theorem dX9_init_361 : decode cX9_init 361 = .ok (.putfield 138, 3) := by decide +kernel
theorem dX9_init_364 : decode cX9_init 364 = .ok (.aload_n 0, 1) := by decide +kernel
theorem dX9_init_365 : decode cX9_init 365 = .ok (.iconst 0, 1) := by decide +kernel
theorem dX9_init_366 : decode cX9_init 366 = .ok (.putfield 141, 3) := by decide +kernel
theorem dX9_init_369 : decode cX9_init 369 = .ok (.aload_n 0, 1) := by decide +kernel
theorem dX9_init_370 : decode cX9_init 370 = .ok (.iconst 0, 1) := by decide +kernel
theorem dX9_init_371 : decode cX9_init 371 = .ok (.putfield 144, 3) := by decide +kernel
theorem dX9_init_374 : decode cX9_init 374 = .ok (.aload_n 0, 1) := by decide +kernel
theorem dX9_init_375 : decode cX9_init 375 = .ok (.iconst 0, 1) := by decide +kernel
theorem dX9_init_376 : decode cX9_init 376 = .ok (.putfield 147, 3) := by decide +kernel
theorem dX9_init_379 : decode cX9_init 379 = .ok (.aload_n 0, 1) := by decide +kernel
theorem dX9_init_380 : decode cX9_init 380 = .ok (.bipush 6, 2) := by decide +kernel
theorem dX9_init_382 : decode cX9_init 382 = .ok (.newarray .int, 2) := by decide +kernel
theorem dX9_init_384 : decode cX9_init 384 = .ok (.putfield 150, 3) := by decide +kernel
theorem dX9_init_387 : decode cX9_init 387 = .ok (.aload_n 0, 1) := by decide +kernel
theorem dX9_init_388 : decode cX9_init 388 = .ok (.bipush 6, 2) := by decide +kernel
theorem dX9_init_390 : decode cX9_init 390 = .ok (.newarray .int, 2) := by decide +kernel
theorem dX9_init_392 : decode cX9_init 392 = .ok (.putfield 153, 3) := by decide +kernel
theorem dX9_init_395 : decode cX9_init 395 = .ok (.aload_n 0, 1) := by decide +kernel
theorem dX9_init_396 : decode cX9_init 396 = .ok (.bipush 6, 2) := by decide +kernel
theorem dX9_init_398 : decode cX9_init 398 = .ok (.newarray .int, 2) := by decide +kernel
theorem dX9_init_400 : decode cX9_init 400 = .ok (.putfield 156, 3) := by decide +kernel
theorem dX9_init_403 : decode cX9_init 403 = .ok (.aload_n 0, 1) := by decide +kernel
theorem dX9_init_404 : decode cX9_init 404 = .ok (.iconst 0, 1) := by decide +kernel
theorem dX9_init_405 : decode cX9_init 405 = .ok (.putfield 159, 3) := by decide +kernel
theorem dX9_init_408 : decode cX9_init 408 = .ok (.aload_n 0, 1) := by decide +kernel
theorem dX9_init_409 : decode cX9_init 409 = .ok (.iconst 5, 1) := by decide +kernel
theorem dX9_init_410 : decode cX9_init 410 = .ok (.newarray .int, 2) := by decide +kernel
theorem dX9_init_412 : decode cX9_init 412 = .ok (.putfield 162, 3) := by decide +kernel
theorem dX9_init_415 : decode cX9_init 415 = .ok (.aload_n 0, 1) := by decide +kernel
theorem dX9_init_416 : decode cX9_init 416 = .ok (.iconst 5, 1) := by decide +kernel
theorem dX9_init_417 : decode cX9_init 417 = .ok (.newarray .int, 2) := by decide +kernel
theorem dX9_init_419 : decode cX9_init 419 = .ok (.putfield 165, 3) := by decide +kernel
theorem dX9_init_422 : decode cX9_init 422 = .ok (.aload_n 0, 1) := by decide +kernel
theorem dX9_init_423 : decode cX9_init 423 = .ok (.iconst 5, 1) := by decide +kernel
theorem dX9_init_424 : decode cX9_init 424 = .ok (.newarray .boolean, 2) := by decide +kernel
theorem dX9_init_426 : decode cX9_init 426 = .ok (.putfield 168, 3) := by decide +kernel
theorem dX9_init_429 : decode cX9_init 429 = .ok (.aload_n 0, 1) := by decide +kernel
theorem dX9_init_430 : decode cX9_init 430 = .ok (.iconst 0, 1) := by decide +kernel
theorem dX9_init_431 : decode cX9_init 431 = .ok (.putfield 171, 3) := by decide +kernel
theorem dX9_init_434 : decode cX9_init 434 = .ok (.aload_n 0, 1) := by decide +kernel
theorem dX9_init_435 : decode cX9_init 435 = .ok (.iconst 0, 1) := by decide +kernel
theorem dX9_init_436 : decode cX9_init 436 = .ok (.putfield 174, 3) := by decide +kernel
theorem dX9_init_439 : decode cX9_init 439 = .ok (.aload_n 0, 1) := by decide +kernel
theorem dX9_init_440 : decode cX9_init 440 = .ok (.bipush 10, 2) := by decide +kernel
theorem dX9_init_442 : decode cX9_init 442 = .ok (.newarray .int, 2) := by decide +kernel
theorem dX9_init_444 : decode cX9_init 444 = .ok (.putfield 177, 3) := by decide +kernel
theorem dX9_init_447 : decode cX9_init 447 = .ok (.aload_n 0, 1) := by decide +kernel
theorem dX9_init_448 : decode cX9_init 448 = .ok (.bipush 10, 2) := by decide +kernel
theorem dX9_init_450 : decode cX9_init 450 = .ok (.newarray .int, 2) := by decide +kernel
theorem dX9_init_452 : decode cX9_init 452 = .ok (.putfield 180, 3) := by decide +kernel
theorem dX9_init_455 : decode cX9_init 455 = .ok (.aload_n 0, 1) := by decide +kernel
theorem dX9_init_456 : decode cX9_init 456 = .ok (.bipush 8, 2) := by decide +kernel
theorem dX9_init_458 : decode cX9_init 458 = .ok (.newarray .int, 2) := by decide +kernel
theorem dX9_init_460 : decode cX9_init 460 = .ok (.putfield 183, 3) := by decide +kernel
theorem dX9_init_463 : decode cX9_init 463 = .ok (.aload_n 0, 1) := by decide +kernel
theorem dX9_init_464 : decode cX9_init 464 = .ok (.bipush 8, 2) := by decide +kernel
theorem dX9_init_466 : decode cX9_init 466 = .ok (.newarray .int, 2) := by decide +kernel
theorem dX9_init_468 : decode cX9_init 468 = .ok (.putfield 186, 3) := by decide +kernel
theorem dX9_init_471 : decode cX9_init 471 = .ok (.aload_n 0, 1) := by decide +kernel
theorem dX9_init_472 : decode cX9_init 472 = .ok (.iconst 0, 1) := by decide +kernel
theorem dX9_init_473 : decode cX9_init 473 = .ok (.putfield 189, 3) := by decide +kernel
theorem dX9_init_476 : decode cX9_init 476 = .ok (.aload_n 0, 1) := by decide +kernel
theorem dX9_init_477 : decode cX9_init 477 = .ok (.iconst (-1), 1) := by decide +kernel
theorem dX9_init_478 : decode cX9_init 478 = .ok (.putfield 193, 3) := by decide +kernel
theorem dX9_init_481 : decode cX9_init 481 = .ok (.aload_n 0, 1) := by decide +kernel
theorem dX9_init_482 : decode cX9_init 482 = .ok (.iconst 0, 1) := by decide +kernel
theorem dX9_init_483 : decode cX9_init 483 = .ok (.putfield 196, 3) := by decide +kernel
theorem dX9_init_486 : decode cX9_init 486 = .ok (.aload_n 0, 1) := by decide +kernel
theorem dX9_init_487 : decode cX9_init 487 = .ok (.iconst 0, 1) := by decide +kernel
theorem dX9_init_488 : decode cX9_init 488 = .ok (.putfield 199, 3) := by decide +kernel
theorem dX9_init_491 : decode cX9_init 491 = .ok (.aload_n 0, 1) := by decide +kernel
theorem dX9_init_492 : decode cX9_init 492 = .ok (.iconst 0, 1) := by decide +kernel
theorem dX9_init_493 : decode cX9_init 493 = .ok (.putfield 202, 3) := by decide +kernel
theorem dX9_init_496 : decode cX9_init 496 = .ok (.aload_n 0, 1) := by decide +kernel
theorem dX9_init_497 : decode cX9_init 497 = .ok (.iconst 0, 1) := by decide +kernel
theorem dX9_init_498 : decode cX9_init 498 = .ok (.putfield 205, 3) := by decide +kernel
theorem dX9_init_501 : decode cX9_init 501 = .ok (.aload_n 0, 1) := by decide +kernel
theorem dX9_init_502 : decode cX9_init 502 = .ok (.iconst 0, 1) := by decide +kernel
theorem dX9_init_503 : decode cX9_init 503 = .ok (.putfield 208, 3) := by decide +kernel
theorem dX9_init_506 : decode cX9_init 506 = .ok (.aload_n 0, 1) := by decide +kernel
theorem dX9_init_507 : decode cX9_init 507 = .ok (.iconst 0, 1) := by decide +kernel
theorem dX9_init_508 : decode cX9_init 508 = .ok (.putfield 211, 3) := by decide +kernel
theorem dX9_init_511 : decode cX9_init 511 = .ok (.aload_n 0, 1) := by decide +kernel
theorem dX9_init_512 : decode cX9_init 512 = .ok (.iconst 0, 1) := by decide +kernel
theorem dX9_init_513 : decode cX9_init 513 = .ok (.putfield 214, 3) := by decide +kernel
theorem dX9_init_516 : decode cX9_init 516 = .ok (.aload_n 0, 1) := by decide +kernel
theorem dX9_init_517 : decode cX9_init 517 = .ok (.iconst 0, 1) := by decide +kernel
theorem dX9_init_518 : decode cX9_init 518 = .ok (.putfield 217, 3) := by decide +kernel
theorem dX9_init_521 : decode cX9_init 521 = .ok (.aload_n 0, 1) := by decide +kernel
theorem dX9_init_522 : decode cX9_init 522 = .ok (.iconst 0, 1) := by decide +kernel
theorem dX9_init_523 : decode cX9_init 523 = .ok (.putfield 220, 3) := by decide +kernel
theorem dX9_init_526 : decode cX9_init 526 = .ok (.aload_n 0, 1) := by decide +kernel
theorem dX9_init_527 : decode cX9_init 527 = .ok (.iconst 0, 1) := by decide +kernel
theorem dX9_init_528 : decode cX9_init 528 = .ok (.putfield 223, 3) := by decide +kernel
theorem dX9_init_531 : decode cX9_init 531 = .ok (.aload_n 0, 1) := by decide +kernel
theorem dX9_init_532 : decode cX9_init 532 = .ok (.iconst 0, 1) := by decide +kernel
theorem dX9_init_533 : decode cX9_init 533 = .ok (.putfield 226, 3) := by decide +kernel
theorem dX9_init_536 : decode cX9_init 536 = .ok (.aload_n 0, 1) := by decide +kernel
theorem dX9_init_537 : decode cX9_init 537 = .ok (.iconst 0, 1) := by decide +kernel
theorem dX9_init_538 : decode cX9_init 538 = .ok (.putfield 229, 3) := by decide +kernel
theorem dX9_init_541 : decode cX9_init 541 = .ok (.aload_n 0, 1) := by decide +kernel
theorem dX9_init_542 : decode cX9_init 542 = .ok (.bipush 6, 2) := by decide +kernel
theorem dX9_init_544 : decode cX9_init 544 = .ok (.newarray .int, 2) := by decide +kernel
theorem dX9_init_546 : decode cX9_init 546 = .ok (.putfield 232, 3) := by decide +kernel
theorem dX9_init_549 : decode cX9_init 549 = .ok (.aload_n 0, 1) := by decide +kernel
theorem dX9_init_550 : decode cX9_init 550 = .ok (.bipush 6, 2) := by decide +kernel
theorem dX9_init_552 : decode cX9_init 552 = .ok (.newarray .int, 2) := by decide +kernel
theorem dX9_init_554 : decode cX9_init 554 = .ok (.putfield 235, 3) := by decide +kernel
theorem dX9_init_557 : decode cX9_init 557 = .ok (.aload_n 0, 1) := by decide +kernel
theorem dX9_init_558 : decode cX9_init 558 = .ok (.bipush 6, 2) := by decide +kernel
theorem dX9_init_560 : decode cX9_init 560 = .ok (.newarray .int, 2) := by decide +kernel
theorem dX9_init_562 : decode cX9_init 562 = .ok (.putfield 238, 3) := by decide +kernel
theorem dX9_init_565 : decode cX9_init 565 = .ok (.aload_n 0, 1) := by decide +kernel
theorem dX9_init_566 : decode cX9_init 566 = .ok (.bipush 6, 2) := by decide +kernel
theorem dX9_init_568 : decode cX9_init 568 = .ok (.newarray .int, 2) := by decide +kernel
theorem dX9_init_570 : decode cX9_init 570 = .ok (.putfield 241, 3) := by decide +kernel
theorem dX9_init_573 : decode cX9_init 573 = .ok (.aload_n 0, 1) := by decide +kernel
theorem dX9_init_574 : decode cX9_init 574 = .ok (.bipush 6, 2) := by decide +kernel
theorem dX9_init_576 : decode cX9_init 576 = .ok (.newarray .int, 2) := by decide +kernel
theorem dX9_init_578 : decode cX9_init 578 = .ok (.putfield 244, 3) := by decide +kernel
theorem dX9_init_581 : decode cX9_init 581 = .ok (.aload_n 0, 1) := by decide +kernel
theorem dX9_init_582 : decode cX9_init 582 = .ok (.bipush 6, 2) := by decide +kernel
theorem dX9_init_584 : decode cX9_init 584 = .ok (.newarray .int, 2) := by decide +kernel
theorem dX9_init_586 : decode cX9_init 586 = .ok (.putfield 247, 3) := by decide +kernel
theorem dX9_init_589 : decode cX9_init 589 = .ok (.aload_n 0, 1) := by decide +kernel
theorem dX9_init_590 : decode cX9_init 590 = .ok (.bipush 24, 2) := by decide +kernel
theorem dX9_init_592 : decode cX9_init 592 = .ok (.newarray .int, 2) := by decide +kernel
theorem dX9_init_594 : decode cX9_init 594 = .ok (.putfield 250, 3) := by decide +kernel
theorem dX9_init_597 : decode cX9_init 597 = .ok (.aload_n 0, 1) := by decide +kernel
theorem dX9_init_598 : decode cX9_init 598 = .ok (.iconst 5, 1) := by decide +kernel
theorem dX9_init_599 : decode cX9_init 599 = .ok (.newarray .int, 2) := by decide +kernel
theorem dX9_init_601 : decode cX9_init 601 = .ok (.putfield 253, 3) := by decide +kernel
theorem dX9_init_604 : decode cX9_init 604 = .ok (.aload_n 0, 1) := by decide +kernel
theorem dX9_init_605 : decode cX9_init 605 = .ok (.iconst 5, 1) := by decide +kernel
theorem dX9_init_606 : decode cX9_init 606 = .ok (.newarray .int, 2) := by decide +kernel
theorem dX9_init_608 : decode cX9_init 608 = .ok (.putfield 256, 3) := by decide +kernel
theorem dX9_init_611 : decode cX9_init 611 = .ok (.aload_n 0, 1) := by decide +kernel
theorem dX9_init_612 : decode cX9_init 612 = .ok (.bipush 10, 2) := by decide +kernel
theorem dX9_init_614 : decode cX9_init 614 = .ok (.newarray .int, 2) := by decide +kernel
theorem dX9_init_616 : decode cX9_init 616 = .ok (.putfield 259, 3) := by decide +kernel
theorem dX9_init_619 : decode cX9_init 619 = .ok (.aload_n 0, 1) := by decide +kernel
theorem dX9_init_620 : decode cX9_init 620 = .ok (.bipush 10, 2) := by decide +kernel
theorem dX9_init_622 : decode cX9_init 622 = .ok (.newarray .int, 2) := by decide +kernel
theorem dX9_init_624 : decode cX9_init 624 = .ok (.putfield 262, 3) := by decide +kernel
theorem dX9_init_627 : decode cX9_init 627 = .ok (.aload_n 0, 1) := by decide +kernel
theorem dX9_init_628 : decode cX9_init 628 = .ok (.bipush 8, 2) := by decide +kernel
theorem dX9_init_630 : decode cX9_init 630 = .ok (.newarray .int, 2) := by decide +kernel
theorem dX9_init_632 : decode cX9_init 632 = .ok (.putfield 265, 3) := by decide +kernel
theorem dX9_init_635 : decode cX9_init 635 = .ok (.aload_n 0, 1) := by decide +kernel
theorem dX9_init_636 : decode cX9_init 636 = .ok (.bipush 8, 2) := by decide +kernel
theorem dX9_init_638 : decode cX9_init 638 = .ok (.newarray .int, 2) := by decide +kernel
theorem dX9_init_640 : decode cX9_init 640 = .ok (.putfield 268, 3) := by decide +kernel
theorem dX9_init_643 : decode cX9_init 643 = .ok (.aload_n 0, 1) := by decide +kernel
theorem dX9_init_644 : decode cX9_init 644 = .ok (.iconst 5, 1) := by decide +kernel
theorem dX9_init_645 : decode cX9_init 645 = .ok (.newarray .boolean, 2) := by decide +kernel
theorem dX9_init_647 : decode cX9_init 647 = .ok (.putfield 271, 3) := by decide +kernel
theorem dX9_init_650 : decode cX9_init 650 = .ok (.aload_n 0, 1) := by decide +kernel
theorem dX9_init_651 : decode cX9_init 651 = .ok (.iconst 0, 1) := by decide +kernel
theorem dX9_init_652 : decode cX9_init 652 = .ok (.putfield 274, 3) := by decide +kernel
theorem dX9_init_655 : decode cX9_init 655 = .ok (.aload_n 0, 1) := by decide +kernel
theorem dX9_init_656 : decode cX9_init 656 = .ok (.bipush 20, 2) := by decide +kernel
theorem dX9_init_658 : decode cX9_init 658 = .ok (.newarray .int, 2) := by decide +kernel
theorem dX9_init_660 : decode cX9_init 660 = .ok (.putfield 277, 3) := by decide +kernel
theorem dX9_init_663 : decode cX9_init 663 = .ok (.aload_n 0, 1) := by decide +kernel
theorem dX9_init_664 : decode cX9_init 664 = .ok (.bipush 6, 2) := by decide +kernel
theorem dX9_init_666 : decode cX9_init 666 = .ok (.newarray .int, 2) := by decide +kernel
theorem dX9_init_668 : decode cX9_init 668 = .ok (.dup, 1) := by decide +kernel
theorem dX9_init_669 : decode cX9_init 669 = .ok (.iconst 0, 1) := by decide +kernel
theorem dX9_init_670 : decode cX9_init 670 = .ok (.iconst (-1), 1) := by decide +kernel
theorem dX9_init_671 : decode cX9_init 671 = .ok (.iastore, 1) := by decide +kernel
theorem dX9_init_672 : decode cX9_init 672 = .ok (.dup, 1) := by decide +kernel
theorem dX9_init_673 : decode cX9_init 673 = .ok (.iconst 1, 1) := by decide +kernel
theorem dX9_init_674 : decode cX9_init 674 = .ok (.iconst (-1), 1) := by decide +kernel
theorem dX9_init_675 : decode cX9_init 675 = .ok (.iastore, 1) := by decide +kernel
theorem dX9_init_676 : decode cX9_init 676 = .ok (.dup, 1) := by decide +kernel
theorem dX9_init_677 : decode cX9_init 677 = .ok (.iconst 2, 1) := by decide +kernel
theorem dX9_init_678 : decode cX9_init 678 = .ok (.iconst (-1), 1) := by decide +kernel
theorem dX9_init_679 : decode cX9_init 679 = .ok (.iastore, 1) := by decide +kernel
theorem dX9_init_680 : decode cX9_init 680 = .ok (.dup, 1) := by decide +kernel
theorem dX9_init_681 : decode cX9_init 681 = .ok (.iconst 3, 1) := by decide +kernel
theorem dX9_init_682 : decode cX9_init 682 = .ok (.iconst (-1), 1) := by decide +kernel
theorem dX9_init_683 : decode cX9_init 683 = .ok (.iastore, 1) := by decide +kernel
theorem dX9_init_684 : decode cX9_init 684 = .ok (.dup, 1) := by decide +kernel
theorem dX9_init_685 : decode cX9_init 685 = .ok (.iconst 4, 1) := by decide +kernel
theorem dX9_init_686 : decode cX9_init 686 = .ok (.iconst (-1), 1) := by decide +kernel
theorem dX9_init_687 : decode cX9_init 687 = .ok (.iastore, 1) := by decide +kernel
theorem dX9_init_688 : decode cX9_init 688 = .ok (.dup, 1) := by decide +kernel
theorem dX9_init_689 : decode cX9_init 689 = .ok (.iconst 5, 1) := by decide +kernel
theorem dX9_init_690 : decode cX9_init 690 = .ok (.iconst (-1), 1) := by decide +kernel
theorem dX9_init_691 : decode cX9_init 691 = .ok (.iastore, 1) := by decide +kernel
theorem dX9_init_692 : decode cX9_init 692 = .ok (.putfield 280, 3) := by decide +kernel
theorem dX9_init_695 : decode cX9_init 695 = .ok (.aload_n 0, 1) := by decide +kernel
theorem dX9_init_696 : decode cX9_init 696 = .ok (.bipush 6, 2) := by decide +kernel
theorem dX9_init_698 : decode cX9_init 698 = .ok (.newarray .int, 2) := by decide +kernel
theorem dX9_init_700 : decode cX9_init 700 = .ok (.putfield 283, 3) := by decide +kernel
theorem dX9_init_703 : decode cX9_init 703 = .ok (.aload_n 0, 1) := by decide +kernel
theorem dX9_init_704 : decode cX9_init 704 = .ok (.sipush 360, 3) := by decide +kernel
theorem dX9_init_707 : decode cX9_init 707 = .ok (.newarray .long, 2) := by decide +kernel
theorem dX9_init_709 : decode cX9_init 709 = .ok (.putfield 286, 3) := by decide +kernel
theorem dX9_init_712 : decode cX9_init 712 = .ok (.aload_n 0, 1) := by decide +kernel
theorem dX9_init_713 : decode cX9_init 713 = .ok (.bipush 60, 2) := by decide +kernel
theorem dX9_init_715 : decode cX9_init 715 = .ok (.newarray .long, 2) := by decide +kernel
theorem dX9_init_717 : decode cX9_init 717 = .ok (.putfield 290, 3) := by decide +kernel
theorem dX9_init_720 : decode cX9_init 720 = .ok (.return_, 1) := by decide +kernel
theorem dX9_in_0 : decode cX9_in 0 = .ok (.iload_n 1, 1) := by decide +kernel
theorem dX9_in_1 : decode cX9_in 1 = .ok (.iload_n 2, 1) := by decide +kernel
theorem dX9_in_2 : decode cX9_in 2 = .ok (.if_icmp .lt 12, 3) := by decide +kernel
theorem dX9_in_5 : decode cX9_in 5 = .ok (.iload_n 1, 1) := by decide +kernel
theorem dX9_in_6 : decode cX9_in 6 = .ok (.iload_n 3, 1) := by decide +kernel
theorem dX9_in_7 : decode cX9_in 7 = .ok (.if_icmp .gt 7, 3) := by decide +kernel
theorem dX9_in_10 : decode cX9_in 10 = .ok (.iconst 1, 1) := by decide +kernel
theorem dX9_in_11 : decode cX9_in 11 = .ok (.goto 4, 3) := by decide +kernel
theorem dX9_in_14 : decode cX9_in 14 = .ok (.iconst 0, 1) := by decide +kernel
theorem dX9_in_15 : decode cX9_in 15 = .ok (.ireturn, 1) := by decide +kernel
theorem dX9_has_0 : decode cX9_has 0 = .ok (.iload_n 1, 1) := by decide +kernel
theorem dX9_has_1 : decode cX9_has 1 = .ok (.iload_n 2, 1) := by decide +kernel
theorem dX9_has_2 : decode cX9_has 2 = .ok (.ishr, 1) := by decide +kernel
theorem dX9_has_3 : decode cX9_has 3 = .ok (.iconst 1, 1) := by decide +kernel
theorem dX9_has_4 : decode cX9_has 4 = .ok (.iand, 1) := by decide +kernel
theorem dX9_has_5 : decode cX9_has 5 = .ok (.iconst 1, 1) := by decide +kernel
theorem dX9_has_6 : decode cX9_has 6 = .ok (.if_icmp .ne 7, 3) := by decide +kernel
theorem dX9_has_9 : decode cX9_has 9 = .ok (.iconst 1, 1) := by decide +kernel
theorem dX9_has_10 : decode cX9_has 10 = .ok (.goto 4, 3) := by decide +kernel
theorem dX9_has_13 : decode cX9_has 13 = .ok (.iconst 0, 1) := by decide +kernel
theorem dX9_has_14 : decode cX9_has 14 = .ok (.ireturn, 1) := by decide +kernel
theorem dX9_with0_0 : decode cX9_with0 0 = .ok (.iload_n 3, 1) := by decide +kernel
theorem dX9_with0_1 : decode cX9_with0 1 = .ok (.ifCond .eq 11, 3) := by decide +kernel
theorem dX9_with0_4 : decode cX9_with0 4 = .ok (.iload_n 1, 1) := by decide +kernel
theorem dX9_with0_5 : decode cX9_with0 5 = .ok (.iconst 1, 1) := by decide +kernel
theorem dX9_with0_6 : decode cX9_with0 6 = .ok (.iload_n 2, 1) := by decide +kernel
theorem dX9_with0_7 : decode cX9_with0 7 = .ok (.ishl, 1) := by decide +kernel
theorem dX9_with0_8 : decode cX9_with0 8 = .ok (.ior, 1) := by decide +kernel
theorem dX9_with0_9 : decode cX9_with0 9 = .ok (.goto 10, 3) := by decide +kernel
theorem dX9_with0_12 : decode cX9_with0 12 = .ok (.iload_n 1, 1) := by decide +kernel
theorem dX9_with0_13 : decode cX9_with0 13 = .ok (.iconst 1, 1) := by decide +kernel
theorem dX9_with0_14 : decode cX9_with0 14 = .ok (.iload_n 2, 1) := by decide +kernel
theorem dX9_with0_15 : decode cX9_with0 15 = .ok (.ishl, 1) := by decide +kernel
theorem dX9_with0_16 : decode cX9_with0 16 = .ok (.iconst (-1), 1) := by decide +kernel
theorem dX9_with0_17 : decode cX9_with0 17 = .ok (.ixor, 1) := by decide +kernel
theorem dX9_with0_18 : decode cX9_with0 18 = .ok (.iand, 1) := by decide +kernel
theorem dX9_with0_19 : decode cX9_with0 19 = .ok (.ireturn, 1) := by decide +kernel
theorem dX9_ones_0 : decode cX9_ones 0 = .ok (.iconst 0, 1) := by decide +kernel
theorem dX9_ones_1 : decode cX9_ones 1 = .ok (.istore_n 2, 1) := by decide +kernel
theorem dX9_ones_2 : decode cX9_ones 2 = .ok (.iload_n 1, 1) := by decide +kernel
theorem dX9_ones_3 : decode cX9_ones 3 = .ok (.istore_n 3, 1) := by decide +kernel
theorem dX9_ones_4 : decode cX9_ones 4 = .ok (.iload_n 3, 1) := by decide +kernel
theorem dX9_ones_5 : decode cX9_ones 5 = .ok (.ifCond .eq 15, 3) := by decide +kernel
theorem dX9_ones_8 : decode cX9_ones 8 = .ok (.iinc 2 1, 3) := by decide +kernel
theorem dX9_ones_11 : decode cX9_ones 11 = .ok (.iload_n 3, 1) := by decide +kernel
theorem dX9_ones_12 : decode cX9_ones 12 = .ok (.iload_n 3, 1) := by decide +kernel
theorem dX9_ones_13 : decode cX9_ones 13 = .ok (.iconst 1, 1) := by decide +kernel
theorem dX9_ones_14 : decode cX9_ones 14 = .ok (.isub, 1) := by decide +kernel
theorem dX9_ones_15 : decode cX9_ones 15 = .ok (.iand, 1) := by decide +kernel
theorem dX9_ones_16 : decode cX9_ones 16 = .ok (.istore_n 3, 1) := by decide +kernel
theorem dX9_ones_17 : decode cX9_ones 17 = .ok (.goto (-13), 3) := by decide +kernel
theorem dX9_ones_20 : decode cX9_ones 20 = .ok (.iload_n 2, 1) := by decide +kernel
theorem dX9_ones_21 : decode cX9_ones 21 = .ok (.ireturn, 1) := by decide +kernel
theorem dX9_isGate_0 : decode cX9_isGate 0 = .ok (.aload_n 0, 1) := by decide +kernel
theorem dX9_isGate_1 : decode cX9_isGate 1 = .ok (.iload_n 1, 1) := by decide +kernel
theorem dX9_isGate_2 : decode cX9_isGate 2 = .ok (.iconst 0, 1) := by decide +kernel
theorem dX9_isGate_3 : decode cX9_isGate 3 = .ok (.aload_n 0, 1) := by decide +kernel
theorem dX9_isGate_4 : decode cX9_isGate 4 = .ok (.getfield 7, 3) := by decide +kernel
theorem dX9_isGate_7 : decode cX9_isGate 7 = .ok (.iconst 1, 1) := by decide +kernel
theorem dX9_isGate_8 : decode cX9_isGate 8 = .ok (.isub, 1) := by decide +kernel
theorem dX9_isGate_9 : decode cX9_isGate 9 = .ok (.invokevirtual 293, 3) := by decide +kernel
theorem dX9_isGate_12 : decode cX9_isGate 12 = .ok (.ireturn, 1) := by decide +kernel
theorem dX9_isPerson_0 : decode cX9_isPerson 0 = .ok (.aload_n 0, 1) := by decide +kernel
theorem dX9_isPerson_1 : decode cX9_isPerson 1 = .ok (.iload_n 1, 1) := by decide +kernel
theorem dX9_isPerson_2 : decode cX9_isPerson 2 = .ok (.iconst 0, 1) := by decide +kernel
theorem dX9_isPerson_3 : decode cX9_isPerson 3 = .ok (.aload_n 0, 1) := by decide +kernel
theorem dX9_isPerson_4 : decode cX9_isPerson 4 = .ok (.getfield 13, 3) := by decide +kernel
theorem dX9_isPerson_7 : decode cX9_isPerson 7 = .ok (.iconst 1, 1) := by decide +kernel
theorem dX9_isPerson_8 : decode cX9_isPerson 8 = .ok (.isub, 1) := by decide +kernel
theorem dX9_isPerson_9 : decode cX9_isPerson 9 = .ok (.invokevirtual 293, 3) := by decide +kernel
theorem dX9_isPerson_12 : decode cX9_isPerson 12 = .ok (.ireturn, 1) := by decide +kernel
theorem dX9_isPlace_0 : decode cX9_isPlace 0 = .ok (.aload_n 0, 1) := by decide +kernel
theorem dX9_isPlace_1 : decode cX9_isPlace 1 = .ok (.iload_n 1, 1) := by decide +kernel
theorem dX9_isPlace_2 : decode cX9_isPlace 2 = .ok (.iconst 0, 1) := by decide +kernel
theorem dX9_isPlace_3 : decode cX9_isPlace 3 = .ok (.bipush 29, 2) := by decide +kernel
theorem dX9_isPlace_5 : decode cX9_isPlace 5 = .ok (.invokevirtual 293, 3) := by decide +kernel
theorem dX9_isPlace_8 : decode cX9_isPlace 8 = .ok (.ireturn, 1) := by decide +kernel
theorem dX9_isMinutes_0 : decode cX9_isMinutes 0 = .ok (.aload_n 0, 1) := by decide +kernel
theorem dX9_isMinutes_1 : decode cX9_isMinutes 1 = .ok (.iload_n 1, 1) := by decide +kernel
theorem dX9_isMinutes_2 : decode cX9_isMinutes 2 = .ok (.iconst 0, 1) := by decide +kernel
theorem dX9_isMinutes_3 : decode cX9_isMinutes 3 = .ok (.bipush 99, 2) := by decide +kernel
theorem dX9_isMinutes_5 : decode cX9_isMinutes 5 = .ok (.invokevirtual 293, 3) := by decide +kernel
theorem dX9_isMinutes_8 : decode cX9_isMinutes 8 = .ok (.ireturn, 1) := by decide +kernel
theorem dX9_gate_0 : decode cX9_gate 0 = .ok (.aload_n 0, 1) := by decide +kernel
theorem dX9_gate_1 : decode cX9_gate 1 = .ok (.iload_n 1, 1) := by decide +kernel
theorem dX9_gate_2 : decode cX9_gate 2 = .ok (.invokevirtual 297, 3) := by decide +kernel
theorem dX9_gate_5 : decode cX9_gate 5 = .ok (.ifCond .ne 6, 3) := by decide +kernel
theorem dX9_gate_8 : decode cX9_gate 8 = .ok (.bipush (-2), 2) := by decide +kernel
theorem dX9_gate_10 : decode cX9_gate 10 = .ok (.ireturn, 1) := by decide +kernel
theorem dX9_gate_11 : decode cX9_gate 11 = .ok (.aload_n 0, 1) := by decide +kernel
theorem dX9_gate_12 : decode cX9_gate 12 = .ok (.getfield 7, 3) := by decide +kernel
theorem dX9_gate_15 : decode cX9_gate 15 = .ok (.bipush 6, 2) := by decide +kernel
theorem dX9_gate_17 : decode cX9_gate 17 = .ok (.if_icmp .ne 6, 3) := by decide +kernel
theorem dX9_gate_20 : decode cX9_gate 20 = .ok (.bipush (-4), 2) := by decide +kernel
theorem dX9_gate_22 : decode cX9_gate 22 = .ok (.ireturn, 1) := by decide +kernel
theorem dX9_gate_23 : decode cX9_gate 23 = .ok (.aload_n 0, 1) := by decide +kernel
theorem dX9_gate_24 : decode cX9_gate 24 = .ok (.getfield 37, 3) := by decide +kernel
theorem dX9_gate_27 : decode cX9_gate 27 = .ok (.aload_n 0, 1) := by decide +kernel
theorem dX9_gate_28 : decode cX9_gate 28 = .ok (.getfield 7, 3) := by decide +kernel
theorem dX9_gate_31 : decode cX9_gate 31 = .ok (.iload_n 1, 1) := by decide +kernel
theorem dX9_gate_32 : decode cX9_gate 32 = .ok (.iastore, 1) := by decide +kernel
theorem dX9_gate_33 : decode cX9_gate 33 = .ok (.aload_n 0, 1) := by decide +kernel
theorem dX9_gate_34 : decode cX9_gate 34 = .ok (.aload_n 0, 1) := by decide +kernel
theorem dX9_gate_35 : decode cX9_gate 35 = .ok (.aload_n 0, 1) := by decide +kernel
theorem dX9_gate_36 : decode cX9_gate 36 = .ok (.getfield 19, 3) := by decide +kernel
theorem dX9_gate_39 : decode cX9_gate 39 = .ok (.aload_n 0, 1) := by decide +kernel
theorem dX9_gate_40 : decode cX9_gate 40 = .ok (.getfield 7, 3) := by decide +kernel
theorem dX9_gate_43 : decode cX9_gate 43 = .ok (.iconst 0, 1) := by decide +kernel
theorem dX9_gate_44 : decode cX9_gate 44 = .ok (.invokevirtual 301, 3) := by decide +kernel
theorem dX9_gate_47 : decode cX9_gate 47 = .ok (.putfield 19, 3) := by decide +kernel
theorem dX9_gate_50 : decode cX9_gate 50 = .ok (.aload_n 0, 1) := by decide +kernel
theorem dX9_gate_51 : decode cX9_gate 51 = .ok (.dup, 1) := by decide +kernel
theorem dX9_gate_52 : decode cX9_gate 52 = .ok (.getfield 7, 3) := by decide +kernel
theorem dX9_gate_55 : decode cX9_gate 55 = .ok (.iconst 1, 1) := by decide +kernel
theorem dX9_gate_56 : decode cX9_gate 56 = .ok (.iadd, 1) := by decide +kernel
theorem dX9_gate_57 : decode cX9_gate 57 = .ok (.putfield 7, 3) := by decide +kernel
theorem dX9_gate_60 : decode cX9_gate 60 = .ok (.aload_n 0, 1) := by decide +kernel
theorem dX9_gate_61 : decode cX9_gate 61 = .ok (.getfield 7, 3) := by decide +kernel
theorem dX9_gate_64 : decode cX9_gate 64 = .ok (.iconst 1, 1) := by decide +kernel
theorem dX9_gate_65 : decode cX9_gate 65 = .ok (.isub, 1) := by decide +kernel
theorem dX9_gate_66 : decode cX9_gate 66 = .ok (.ireturn, 1) := by decide +kernel
theorem dX9_person_0 : decode cX9_person 0 = .ok (.aload_n 0, 1) := by decide +kernel
theorem dX9_person_1 : decode cX9_person 1 = .ok (.iload_n 1, 1) := by decide +kernel
theorem dX9_person_2 : decode cX9_person 2 = .ok (.iconst 0, 1) := by decide +kernel
theorem dX9_person_3 : decode cX9_person 3 = .ok (.bipush 6, 2) := by decide +kernel
theorem dX9_person_5 : decode cX9_person 5 = .ok (.invokevirtual 293, 3) := by decide +kernel
theorem dX9_person_8 : decode cX9_person 8 = .ok (.ifCond .ne 5, 3) := by decide +kernel
theorem dX9_person_11 : decode cX9_person 11 = .ok (.iconst (-1), 1) := by decide +kernel
theorem dX9_person_12 : decode cX9_person 12 = .ok (.ireturn, 1) := by decide +kernel
theorem dX9_person_13 : decode cX9_person 13 = .ok (.aload_n 0, 1) := by decide +kernel
theorem dX9_person_14 : decode cX9_person 14 = .ok (.iload_n 2, 1) := by decide +kernel
theorem dX9_person_15 : decode cX9_person 15 = .ok (.iconst 0, 1) := by decide +kernel
theorem dX9_person_16 : decode cX9_person 16 = .ok (.bipush 9, 2) := by decide +kernel
theorem dX9_person_18 : decode cX9_person 18 = .ok (.invokevirtual 293, 3) := by decide +kernel
theorem dX9_person_21 : decode cX9_person 21 = .ok (.ifCond .eq 11, 3) := by decide +kernel
theorem dX9_person_24 : decode cX9_person 24 = .ok (.aload_n 0, 1) := by decide +kernel
theorem dX9_person_25 : decode cX9_person 25 = .ok (.iload_n 3, 1) := by decide +kernel
theorem dX9_person_26 : decode cX9_person 26 = .ok (.invokevirtual 297, 3) := by decide +kernel
theorem dX9_person_29 : decode cX9_person 29 = .ok (.ifCond .ne 6, 3) := by decide +kernel
theorem dX9_person_32 : decode cX9_person 32 = .ok (.bipush (-2), 2) := by decide +kernel
theorem dX9_person_34 : decode cX9_person 34 = .ok (.ireturn, 1) := by decide +kernel
theorem dX9_person_35 : decode cX9_person 35 = .ok (.aload_n 0, 1) := by decide +kernel
theorem dX9_person_36 : decode cX9_person 36 = .ok (.getfield 13, 3) := by decide +kernel
theorem dX9_person_39 : decode cX9_person 39 = .ok (.bipush 6, 2) := by decide +kernel
theorem dX9_person_41 : decode cX9_person 41 = .ok (.if_icmp .ne 6, 3) := by decide +kernel
theorem dX9_person_44 : decode cX9_person 44 = .ok (.bipush (-4), 2) := by decide +kernel
theorem dX9_person_46 : decode cX9_person 46 = .ok (.ireturn, 1) := by decide +kernel
theorem dX9_person_47 : decode cX9_person 47 = .ok (.aload_n 0, 1) := by decide +kernel
theorem dX9_person_48 : decode cX9_person 48 = .ok (.getfield 41, 3) := by decide +kernel
theorem dX9_person_51 : decode cX9_person 51 = .ok (.aload_n 0, 1) := by decide +kernel
theorem dX9_person_52 : decode cX9_person 52 = .ok (.getfield 13, 3) := by decide +kernel
theorem dX9_person_55 : decode cX9_person 55 = .ok (.iload_n 1, 1) := by decide +kernel
theorem dX9_person_56 : decode cX9_person 56 = .ok (.iastore, 1) := by decide +kernel
theorem dX9_person_57 : decode cX9_person 57 = .ok (.aload_n 0, 1) := by decide +kernel
theorem dX9_person_58 : decode cX9_person 58 = .ok (.getfield 44, 3) := by decide +kernel
theorem dX9_person_61 : decode cX9_person 61 = .ok (.aload_n 0, 1) := by decide +kernel
theorem dX9_person_62 : decode cX9_person 62 = .ok (.getfield 13, 3) := by decide +kernel
theorem dX9_person_65 : decode cX9_person 65 = .ok (.iload_n 2, 1) := by decide +kernel
theorem dX9_person_66 : decode cX9_person 66 = .ok (.iastore, 1) := by decide +kernel
theorem dX9_person_67 : decode cX9_person 67 = .ok (.aload_n 0, 1) := by decide +kernel
theorem dX9_person_68 : decode cX9_person 68 = .ok (.getfield 47, 3) := by decide +kernel
theorem dX9_person_71 : decode cX9_person 71 = .ok (.aload_n 0, 1) := by decide +kernel
theorem dX9_person_72 : decode cX9_person 72 = .ok (.getfield 13, 3) := by decide +kernel
theorem dX9_person_75 : decode cX9_person 75 = .ok (.iload_n 3, 1) := by decide +kernel
theorem dX9_person_76 : decode cX9_person 76 = .ok (.iastore, 1) := by decide +kernel
theorem dX9_person_77 : decode cX9_person 77 = .ok (.aload_n 0, 1) := by decide +kernel
theorem dX9_person_78 : decode cX9_person 78 = .ok (.getfield 50, 3) := by decide +kernel
theorem dX9_person_81 : decode cX9_person 81 = .ok (.aload_n 0, 1) := by decide +kernel
theorem dX9_person_82 : decode cX9_person 82 = .ok (.getfield 13, 3) := by decide +kernel
theorem dX9_person_85 : decode cX9_person 85 = .ok (.iconst 0, 1) := by decide +kernel
theorem dX9_person_86 : decode cX9_person 86 = .ok (.iastore, 1) := by decide +kernel
theorem dX9_person_87 : decode cX9_person 87 = .ok (.aload_n 0, 1) := by decide +kernel
theorem dX9_person_88 : decode cX9_person 88 = .ok (.aload_n 0, 1) := by decide +kernel
theorem dX9_person_89 : decode cX9_person 89 = .ok (.aload_n 0, 1) := by decide +kernel
theorem dX9_person_90 : decode cX9_person 90 = .ok (.getfield 22, 3) := by decide +kernel
theorem dX9_person_93 : decode cX9_person 93 = .ok (.aload_n 0, 1) := by decide +kernel
theorem dX9_person_94 : decode cX9_person 94 = .ok (.getfield 13, 3) := by decide +kernel
theorem dX9_person_97 : decode cX9_person 97 = .ok (.iconst 0, 1) := by decide +kernel
theorem dX9_person_98 : decode cX9_person 98 = .ok (.invokevirtual 301, 3) := by decide +kernel
theorem dX9_person_101 : decode cX9_person 101 = .ok (.putfield 22, 3) := by decide +kernel
theorem dX9_person_104 : decode cX9_person 104 = .ok (.aload_n 0, 1) := by decide +kernel
theorem dX9_person_105 : decode cX9_person 105 = .ok (.aload_n 0, 1) := by decide +kernel
theorem dX9_person_106 : decode cX9_person 106 = .ok (.aload_n 0, 1) := by decide +kernel
theorem dX9_person_107 : decode cX9_person 107 = .ok (.getfield 25, 3) := by decide +kernel
theorem dX9_person_110 : decode cX9_person 110 = .ok (.aload_n 0, 1) := by decide +kernel
theorem dX9_person_111 : decode cX9_person 111 = .ok (.getfield 13, 3) := by decide +kernel
theorem dX9_person_114 : decode cX9_person 114 = .ok (.iconst 0, 1) := by decide +kernel
theorem dX9_person_115 : decode cX9_person 115 = .ok (.invokevirtual 301, 3) := by decide +kernel
theorem dX9_person_118 : decode cX9_person 118 = .ok (.putfield 25, 3) := by decide +kernel
theorem dX9_person_121 : decode cX9_person 121 = .ok (.iconst 0, 1) := by decide +kernel
theorem dX9_person_122 : decode cX9_person 122 = .ok (.istore 4, 2) := by decide +kernel
theorem dX9_person_124 : decode cX9_person 124 = .ok (.iload 4, 2) := by decide +kernel
theorem dX9_person_126 : decode cX9_person 126 = .ok (.iconst 4, 1) := by decide +kernel
theorem dX9_person_127 : decode cX9_person 127 = .ok (.if_icmp .ge 24, 3) := by decide +kernel
theorem dX9_person_130 : decode cX9_person 130 = .ok (.aload_n 0, 1) := by decide +kernel
theorem dX9_person_131 : decode cX9_person 131 = .ok (.getfield 53, 3) := by decide +kernel
theorem dX9_person_134 : decode cX9_person 134 = .ok (.iconst 4, 1) := by decide +kernel
theorem dX9_person_135 : decode cX9_person 135 = .ok (.aload_n 0, 1) := by decide +kernel
theorem dX9_person_136 : decode cX9_person 136 = .ok (.getfield 13, 3) := by decide +kernel
theorem dX9_person_139 : decode cX9_person 139 = .ok (.imul, 1) := by decide +kernel
theorem dX9_person_140 : decode cX9_person 140 = .ok (.iload 4, 2) := by decide +kernel
theorem dX9_person_142 : decode cX9_person 142 = .ok (.iadd, 1) := by decide +kernel
theorem dX9_person_143 : decode cX9_person 143 = .ok (.iconst 0, 1) := by decide +kernel
theorem dX9_person_144 : decode cX9_person 144 = .ok (.iastore, 1) := by decide +kernel
theorem dX9_person_145 : decode cX9_person 145 = .ok (.iinc 4 1, 3) := by decide +kernel
theorem dX9_person_148 : decode cX9_person 148 = .ok (.goto (-24), 3) := by decide +kernel
theorem dX9_person_151 : decode cX9_person 151 = .ok (.aload_n 0, 1) := by decide +kernel
theorem dX9_person_152 : decode cX9_person 152 = .ok (.dup, 1) := by decide +kernel
theorem dX9_person_153 : decode cX9_person 153 = .ok (.getfield 13, 3) := by decide +kernel
theorem dX9_person_156 : decode cX9_person 156 = .ok (.iconst 1, 1) := by decide +kernel
theorem dX9_person_157 : decode cX9_person 157 = .ok (.iadd, 1) := by decide +kernel
theorem dX9_person_158 : decode cX9_person 158 = .ok (.putfield 13, 3) := by decide +kernel
theorem dX9_person_161 : decode cX9_person 161 = .ok (.aload_n 0, 1) := by decide +kernel
theorem dX9_person_162 : decode cX9_person 162 = .ok (.getfield 13, 3) := by decide +kernel
theorem dX9_person_165 : decode cX9_person 165 = .ok (.iconst 1, 1) := by decide +kernel
theorem dX9_person_166 : decode cX9_person 166 = .ok (.isub, 1) := by decide +kernel
theorem dX9_person_167 : decode cX9_person 167 = .ok (.ireturn, 1) := by decide +kernel
theorem dX9_puts_0 : decode cX9_puts 0 = .ok (.aload_n 0, 1) := by decide +kernel
theorem dX9_puts_1 : decode cX9_puts 1 = .ok (.getfield 47, 3) := by decide +kernel
theorem dX9_puts_4 : decode cX9_puts 4 = .ok (.iload_n 1, 1) := by decide +kernel
theorem dX9_puts_5 : decode cX9_puts 5 = .ok (.iload_n 2, 1) := by decide +kernel
theorem dX9_puts_6 : decode cX9_puts 6 = .ok (.iastore, 1) := by decide +kernel
theorem dX9_puts_7 : decode cX9_puts 7 = .ok (.aload_n 0, 1) := by decide +kernel
theorem dX9_puts_8 : decode cX9_puts 8 = .ok (.aload_n 0, 1) := by decide +kernel
theorem dX9_puts_9 : decode cX9_puts 9 = .ok (.aload_n 0, 1) := by decide +kernel
theorem dX9_puts_10 : decode cX9_puts 10 = .ok (.getfield 25, 3) := by decide +kernel
theorem dX9_puts_13 : decode cX9_puts 13 = .ok (.iload_n 1, 1) := by decide +kernel
theorem dX9_puts_14 : decode cX9_puts 14 = .ok (.iconst 0, 1) := by decide +kernel
theorem dX9_puts_15 : decode cX9_puts 15 = .ok (.invokevirtual 301, 3) := by decide +kernel
theorem dX9_puts_18 : decode cX9_puts 18 = .ok (.putfield 25, 3) := by decide +kernel
theorem dX9_puts_21 : decode cX9_puts 21 = .ok (.return_, 1) := by decide +kernel
theorem dX9_put_0 : decode cX9_put 0 = .ok (.aload_n 0, 1) := by decide +kernel
theorem dX9_put_1 : decode cX9_put 1 = .ok (.iload_n 1, 1) := by decide +kernel
theorem dX9_put_2 : decode cX9_put 2 = .ok (.invokevirtual 305, 3) := by decide +kernel
theorem dX9_put_5 : decode cX9_put 5 = .ok (.ifCond .ne 5, 3) := by decide +kernel
theorem dX9_put_8 : decode cX9_put 8 = .ok (.iconst (-1), 1) := by decide +kernel
theorem dX9_put_9 : decode cX9_put 9 = .ok (.ireturn, 1) := by decide +kernel
theorem dX9_put_10 : decode cX9_put 10 = .ok (.aload_n 0, 1) := by decide +kernel
theorem dX9_put_11 : decode cX9_put 11 = .ok (.iload_n 2, 1) := by decide +kernel
theorem dX9_put_12 : decode cX9_put 12 = .ok (.invokevirtual 297, 3) := by decide +kernel
theorem dX9_put_15 : decode cX9_put 15 = .ok (.ifCond .ne 6, 3) := by decide +kernel
theorem dX9_put_18 : decode cX9_put 18 = .ok (.bipush (-2), 2) := by decide +kernel
theorem dX9_put_20 : decode cX9_put 20 = .ok (.ireturn, 1) := by decide +kernel
theorem dX9_put_21 : decode cX9_put 21 = .ok (.aload_n 0, 1) := by decide +kernel
theorem dX9_put_22 : decode cX9_put 22 = .ok (.getfield 47, 3) := by decide +kernel
theorem dX9_put_25 : decode cX9_put 25 = .ok (.iload_n 1, 1) := by decide +kernel
theorem dX9_put_26 : decode cX9_put 26 = .ok (.iaload, 1) := by decide +kernel
theorem dX9_put_27 : decode cX9_put 27 = .ok (.istore_n 3, 1) := by decide +kernel
theorem dX9_put_28 : decode cX9_put 28 = .ok (.aload_n 0, 1) := by decide +kernel
theorem dX9_put_29 : decode cX9_put 29 = .ok (.iload_n 1, 1) := by decide +kernel
theorem dX9_put_30 : decode cX9_put 30 = .ok (.iload_n 2, 1) := by decide +kernel
theorem dX9_put_31 : decode cX9_put 31 = .ok (.invokevirtual 308, 3) := by decide +kernel
theorem dX9_put_34 : decode cX9_put 34 = .ok (.iload_n 3, 1) := by decide +kernel
theorem dX9_put_35 : decode cX9_put 35 = .ok (.ireturn, 1) := by decide +kernel
theorem dX9_call_0 : decode cX9_call 0 = .ok (.aload_n 0, 1) := by decide +kernel
theorem dX9_call_1 : decode cX9_call 1 = .ok (.iload_n 1, 1) := by decide +kernel
theorem dX9_call_2 : decode cX9_call 2 = .ok (.invokevirtual 305, 3) := by decide +kernel
theorem dX9_call_5 : decode cX9_call 5 = .ok (.ifCond .ne 5, 3) := by decide +kernel
theorem dX9_call_8 : decode cX9_call 8 = .ok (.iconst (-1), 1) := by decide +kernel
theorem dX9_call_9 : decode cX9_call 9 = .ok (.ireturn, 1) := by decide +kernel
theorem dX9_call_10 : decode cX9_call 10 = .ok (.aload_n 0, 1) := by decide +kernel
theorem dX9_call_11 : decode cX9_call 11 = .ok (.aload_n 0, 1) := by decide +kernel
theorem dX9_call_12 : decode cX9_call 12 = .ok (.getfield 22, 3) := by decide +kernel
theorem dX9_call_15 : decode cX9_call 15 = .ok (.iload_n 1, 1) := by decide +kernel
theorem dX9_call_16 : decode cX9_call 16 = .ok (.invokevirtual 312, 3) := by decide +kernel
theorem dX9_call_19 : decode cX9_call 19 = .ok (.ifCond .eq 7, 3) := by decide +kernel
theorem dX9_call_22 : decode cX9_call 22 = .ok (.iconst 1, 1) := by decide +kernel
theorem dX9_call_23 : decode cX9_call 23 = .ok (.goto 4, 3) := by decide +kernel
theorem dX9_call_26 : decode cX9_call 26 = .ok (.iconst 0, 1) := by decide +kernel
theorem dX9_call_27 : decode cX9_call 27 = .ok (.istore_n 3, 1) := by decide +kernel
theorem dX9_call_28 : decode cX9_call 28 = .ok (.aload_n 0, 1) := by decide +kernel
theorem dX9_call_29 : decode cX9_call 29 = .ok (.aload_n 0, 1) := by decide +kernel
theorem dX9_call_30 : decode cX9_call 30 = .ok (.aload_n 0, 1) := by decide +kernel
theorem dX9_call_31 : decode cX9_call 31 = .ok (.getfield 22, 3) := by decide +kernel
theorem dX9_call_34 : decode cX9_call 34 = .ok (.iload_n 1, 1) := by decide +kernel
theorem dX9_call_35 : decode cX9_call 35 = .ok (.iload_n 2, 1) := by decide +kernel
theorem dX9_call_36 : decode cX9_call 36 = .ok (.invokevirtual 301, 3) := by decide +kernel
theorem dX9_call_39 : decode cX9_call 39 = .ok (.putfield 22, 3) := by decide +kernel
theorem dX9_call_42 : decode cX9_call 42 = .ok (.aload_n 0, 1) := by decide +kernel
theorem dX9_call_43 : decode cX9_call 43 = .ok (.getfield 50, 3) := by decide +kernel
theorem dX9_call_46 : decode cX9_call 46 = .ok (.iload_n 1, 1) := by decide +kernel
theorem dX9_call_47 : decode cX9_call 47 = .ok (.iload_n 2, 1) := by decide +kernel
theorem dX9_call_48 : decode cX9_call 48 = .ok (.ifCond .eq 12, 3) := by decide +kernel
theorem dX9_call_51 : decode cX9_call 51 = .ok (.aload_n 0, 1) := by decide +kernel
theorem dX9_call_52 : decode cX9_call 52 = .ok (.getfield 50, 3) := by decide +kernel
theorem dX9_call_55 : decode cX9_call 55 = .ok (.iload_n 1, 1) := by decide +kernel
theorem dX9_call_56 : decode cX9_call 56 = .ok (.iaload, 1) := by decide +kernel
theorem dX9_call_57 : decode cX9_call 57 = .ok (.goto 4, 3) := by decide +kernel
theorem dX9_call_60 : decode cX9_call 60 = .ok (.iconst 0, 1) := by decide +kernel
theorem dX9_call_61 : decode cX9_call 61 = .ok (.iastore, 1) := by decide +kernel
theorem dX9_call_62 : decode cX9_call 62 = .ok (.iload_n 3, 1) := by decide +kernel
theorem dX9_call_63 : decode cX9_call 63 = .ok (.ireturn, 1) := by decide +kernel
theorem dX9_shut_0 : decode cX9_shut 0 = .ok (.aload_n 0, 1) := by decide +kernel
theorem dX9_shut_1 : decode cX9_shut 1 = .ok (.iload_n 1, 1) := by decide +kernel
theorem dX9_shut_2 : decode cX9_shut 2 = .ok (.invokevirtual 316, 3) := by decide +kernel
theorem dX9_shut_5 : decode cX9_shut 5 = .ok (.ifCond .ne 5, 3) := by decide +kernel
theorem dX9_shut_8 : decode cX9_shut 8 = .ok (.iconst (-1), 1) := by decide +kernel
theorem dX9_shut_9 : decode cX9_shut 9 = .ok (.ireturn, 1) := by decide +kernel
theorem dX9_shut_10 : decode cX9_shut 10 = .ok (.aload_n 0, 1) := by decide +kernel
theorem dX9_shut_11 : decode cX9_shut 11 = .ok (.aload_n 0, 1) := by decide +kernel
theorem dX9_shut_12 : decode cX9_shut 12 = .ok (.getfield 19, 3) := by decide +kernel
theorem dX9_shut_15 : decode cX9_shut 15 = .ok (.iload_n 1, 1) := by decide +kernel
theorem dX9_shut_16 : decode cX9_shut 16 = .ok (.invokevirtual 312, 3) := by decide +kernel
theorem dX9_shut_19 : decode cX9_shut 19 = .ok (.ifCond .eq 7, 3) := by decide +kernel
theorem dX9_shut_22 : decode cX9_shut 22 = .ok (.iconst 1, 1) := by decide +kernel
theorem dX9_shut_23 : decode cX9_shut 23 = .ok (.goto 4, 3) := by decide +kernel
theorem dX9_shut_26 : decode cX9_shut 26 = .ok (.iconst 0, 1) := by decide +kernel
theorem dX9_shut_27 : decode cX9_shut 27 = .ok (.istore_n 3, 1) := by decide +kernel
theorem dX9_shut_28 : decode cX9_shut 28 = .ok (.aload_n 0, 1) := by decide +kernel
theorem dX9_shut_29 : decode cX9_shut 29 = .ok (.aload_n 0, 1) := by decide +kernel
theorem dX9_shut_30 : decode cX9_shut 30 = .ok (.aload_n 0, 1) := by decide +kernel
theorem dX9_shut_31 : decode cX9_shut 31 = .ok (.getfield 19, 3) := by decide +kernel
theorem dX9_shut_34 : decode cX9_shut 34 = .ok (.iload_n 1, 1) := by decide +kernel
theorem dX9_shut_35 : decode cX9_shut 35 = .ok (.iload_n 2, 1) := by decide +kernel
theorem dX9_shut_36 : decode cX9_shut 36 = .ok (.invokevirtual 301, 3) := by decide +kernel
theorem dX9_shut_39 : decode cX9_shut 39 = .ok (.putfield 19, 3) := by decide +kernel
theorem dX9_shut_42 : decode cX9_shut 42 = .ok (.iload_n 3, 1) := by decide +kernel
theorem dX9_shut_43 : decode cX9_shut 43 = .ok (.ireturn, 1) := by decide +kernel
theorem dX9_row_0 : decode cX9_row 0 = .ok (.aload_n 0, 1) := by decide +kernel
theorem dX9_row_1 : decode cX9_row 1 = .ok (.iload_n 1, 1) := by decide +kernel
theorem dX9_row_2 : decode cX9_row 2 = .ok (.invokevirtual 305, 3) := by decide +kernel
theorem dX9_row_5 : decode cX9_row 5 = .ok (.ifCond .eq 13, 3) := by decide +kernel
theorem dX9_row_8 : decode cX9_row 8 = .ok (.aload_n 0, 1) := by decide +kernel
theorem dX9_row_9 : decode cX9_row 9 = .ok (.iload_n 2, 1) := by decide +kernel
theorem dX9_row_10 : decode cX9_row 10 = .ok (.iconst 0, 1) := by decide +kernel
theorem dX9_row_11 : decode cX9_row 11 = .ok (.iconst 3, 1) := by decide +kernel
theorem dX9_row_12 : decode cX9_row 12 = .ok (.invokevirtual 293, 3) := by decide +kernel
theorem dX9_row_15 : decode cX9_row 15 = .ok (.ifCond .ne 5, 3) := by decide +kernel
theorem dX9_row_18 : decode cX9_row 18 = .ok (.iconst (-1), 1) := by decide +kernel
theorem dX9_row_19 : decode cX9_row 19 = .ok (.ireturn, 1) := by decide +kernel
theorem dX9_row_20 : decode cX9_row 20 = .ok (.aload_n 0, 1) := by decide +kernel
theorem dX9_row_21 : decode cX9_row 21 = .ok (.iload_n 3, 1) := by decide +kernel
theorem dX9_row_22 : decode cX9_row 22 = .ok (.iconst 0, 1) := by decide +kernel
theorem dX9_row_23 : decode cX9_row 23 = .ok (.bipush 9, 2) := by decide +kernel
theorem dX9_row_25 : decode cX9_row 25 = .ok (.invokevirtual 293, 3) := by decide +kernel
theorem dX9_row_28 : decode cX9_row 28 = .ok (.ifCond .ne 6, 3) := by decide +kernel
theorem dX9_row_31 : decode cX9_row 31 = .ok (.bipush (-2), 2) := by decide +kernel
theorem dX9_row_33 : decode cX9_row 33 = .ok (.ireturn, 1) := by decide +kernel
theorem dX9_row_34 : decode cX9_row 34 = .ok (.aload_n 0, 1) := by decide +kernel
theorem dX9_row_35 : decode cX9_row 35 = .ok (.getfield 41, 3) := by decide +kernel
theorem dX9_row_38 : decode cX9_row 38 = .ok (.iload_n 1, 1) := by decide +kernel
theorem dX9_row_39 : decode cX9_row 39 = .ok (.iaload, 1) := by decide +kernel
theorem dX9_row_40 : decode cX9_row 40 = .ok (.bipush 6, 2) := by decide +kernel
theorem dX9_row_42 : decode cX9_row 42 = .ok (.if_icmp .eq 6, 3) := by decide +kernel
theorem dX9_row_45 : decode cX9_row 45 = .ok (.bipush (-3), 2) := by decide +kernel
theorem dX9_row_47 : decode cX9_row 47 = .ok (.ireturn, 1) := by decide +kernel
theorem dX9_row_48 : decode cX9_row 48 = .ok (.aload_n 0, 1) := by decide +kernel
theorem dX9_row_49 : decode cX9_row 49 = .ok (.getfield 53, 3) := by decide +kernel
theorem dX9_row_52 : decode cX9_row 52 = .ok (.iconst 4, 1) := by decide +kernel
theorem dX9_row_53 : decode cX9_row 53 = .ok (.iload_n 1, 1) := by decide +kernel
theorem dX9_row_54 : decode cX9_row 54 = .ok (.imul, 1) := by decide +kernel
theorem dX9_row_55 : decode cX9_row 55 = .ok (.iload_n 2, 1) := by decide +kernel
theorem dX9_row_56 : decode cX9_row 56 = .ok (.iadd, 1) := by decide +kernel
theorem dX9_row_57 : decode cX9_row 57 = .ok (.iaload, 1) := by decide +kernel
theorem dX9_row_58 : decode cX9_row 58 = .ok (.istore 4, 2) := by decide +kernel
theorem dX9_row_60 : decode cX9_row 60 = .ok (.aload_n 0, 1) := by decide +kernel
theorem dX9_row_61 : decode cX9_row 61 = .ok (.getfield 53, 3) := by decide +kernel
theorem dX9_row_64 : decode cX9_row 64 = .ok (.iconst 4, 1) := by decide +kernel
theorem dX9_row_65 : decode cX9_row 65 = .ok (.iload_n 1, 1) := by decide +kernel
theorem dX9_row_66 : decode cX9_row 66 = .ok (.imul, 1) := by decide +kernel
theorem dX9_row_67 : decode cX9_row 67 = .ok (.iload_n 2, 1) := by decide +kernel
theorem dX9_row_68 : decode cX9_row 68 = .ok (.iadd, 1) := by decide +kernel
theorem dX9_row_69 : decode cX9_row 69 = .ok (.iload_n 3, 1) := by decide +kernel
theorem dX9_row_70 : decode cX9_row 70 = .ok (.iastore, 1) := by decide +kernel
theorem dX9_row_71 : decode cX9_row 71 = .ok (.iload 4, 2) := by decide +kernel
theorem dX9_row_73 : decode cX9_row 73 = .ok (.ireturn, 1) := by decide +kernel
theorem dX9_round_0 : decode cX9_round 0 = .ok (.iload_n 1, 1) := by decide +kernel
theorem dX9_round_1 : decode cX9_round 1 = .ok (.iconst (-1), 1) := by decide +kernel
theorem dX9_round_2 : decode cX9_round 2 = .ok (.if_icmp .ne 20, 3) := by decide +kernel
theorem dX9_round_5 : decode cX9_round 5 = .ok (.aload_n 0, 1) := by decide +kernel
theorem dX9_round_6 : decode cX9_round 6 = .ok (.iconst 0, 1) := by decide +kernel
theorem dX9_round_7 : decode cX9_round 7 = .ok (.putfield 34, 3) := by decide +kernel
theorem dX9_round_10 : decode cX9_round 10 = .ok (.aload_n 0, 1) := by decide +kernel
theorem dX9_round_11 : decode cX9_round 11 = .ok (.iconst 0, 1) := by decide +kernel
theorem dX9_round_12 : decode cX9_round 12 = .ok (.putfield 31, 3) := by decide +kernel
theorem dX9_round_15 : decode cX9_round 15 = .ok (.aload_n 0, 1) := by decide +kernel
theorem dX9_round_16 : decode cX9_round 16 = .ok (.iconst 0, 1) := by decide +kernel
theorem dX9_round_17 : decode cX9_round 17 = .ok (.putfield 28, 3) := by decide +kernel
theorem dX9_round_20 : decode cX9_round 20 = .ok (.iconst 0, 1) := by decide +kernel
theorem dX9_round_21 : decode cX9_round 21 = .ok (.ireturn, 1) := by decide +kernel
theorem dX9_round_22 : decode cX9_round 22 = .ok (.aload_n 0, 1) := by decide +kernel
theorem dX9_round_23 : decode cX9_round 23 = .ok (.iload_n 1, 1) := by decide +kernel
theorem dX9_round_24 : decode cX9_round 24 = .ok (.invokevirtual 316, 3) := by decide +kernel
theorem dX9_round_27 : decode cX9_round 27 = .ok (.ifCond .ne 5, 3) := by decide +kernel
theorem dX9_round_30 : decode cX9_round 30 = .ok (.iconst (-1), 1) := by decide +kernel
theorem dX9_round_31 : decode cX9_round 31 = .ok (.ireturn, 1) := by decide +kernel
theorem dX9_round_32 : decode cX9_round 32 = .ok (.aload_n 0, 1) := by decide +kernel
theorem dX9_round_33 : decode cX9_round 33 = .ok (.getfield 34, 3) := by decide +kernel
theorem dX9_round_36 : decode cX9_round 36 = .ok (.bipush 6, 2) := by decide +kernel
theorem dX9_round_38 : decode cX9_round 38 = .ok (.if_icmp .ne 6, 3) := by decide +kernel
theorem dX9_round_41 : decode cX9_round 41 = .ok (.bipush (-4), 2) := by decide +kernel
theorem dX9_round_43 : decode cX9_round 43 = .ok (.ireturn, 1) := by decide +kernel
theorem dX9_round_44 : decode cX9_round 44 = .ok (.aload_n 0, 1) := by decide +kernel
theorem dX9_round_45 : decode cX9_round 45 = .ok (.getfield 56, 3) := by decide +kernel
theorem dX9_round_48 : decode cX9_round 48 = .ok (.aload_n 0, 1) := by decide +kernel
theorem dX9_round_49 : decode cX9_round 49 = .ok (.getfield 34, 3) := by decide +kernel
theorem dX9_round_52 : decode cX9_round 52 = .ok (.iload_n 1, 1) := by decide +kernel
theorem dX9_round_53 : decode cX9_round 53 = .ok (.iastore, 1) := by decide +kernel
theorem dX9_round_54 : decode cX9_round 54 = .ok (.aload_n 0, 1) := by decide +kernel
theorem dX9_round_55 : decode cX9_round 55 = .ok (.dup, 1) := by decide +kernel
theorem dX9_round_56 : decode cX9_round 56 = .ok (.getfield 34, 3) := by decide +kernel
theorem dX9_round_59 : decode cX9_round 59 = .ok (.iconst 1, 1) := by decide +kernel
theorem dX9_round_60 : decode cX9_round 60 = .ok (.iadd, 1) := by decide +kernel
theorem dX9_round_61 : decode cX9_round 61 = .ok (.putfield 34, 3) := by decide +kernel
theorem dX9_round_64 : decode cX9_round 64 = .ok (.aload_n 0, 1) := by decide +kernel
theorem dX9_round_65 : decode cX9_round 65 = .ok (.getfield 34, 3) := by decide +kernel
theorem dX9_round_68 : decode cX9_round 68 = .ok (.ireturn, 1) := by decide +kernel
theorem dX9_feed_0 : decode cX9_feed 0 = .ok (.aload_n 0, 1) := by decide +kernel
theorem dX9_feed_1 : decode cX9_feed 1 = .ok (.iload_n 1, 1) := by decide +kernel
theorem dX9_feed_2 : decode cX9_feed 2 = .ok (.iconst 0, 1) := by decide +kernel
theorem dX9_feed_3 : decode cX9_feed 3 = .ok (.bipush 127, 2) := by decide +kernel
theorem dX9_feed_5 : decode cX9_feed 5 = .ok (.invokevirtual 293, 3) := by decide +kernel
theorem dX9_feed_8 : decode cX9_feed 8 = .ok (.ifCond .ne 6, 3) := by decide +kernel
theorem dX9_feed_11 : decode cX9_feed 11 = .ok (.bipush (-2), 2) := by decide +kernel
theorem dX9_feed_13 : decode cX9_feed 13 = .ok (.ireturn, 1) := by decide +kernel
theorem dX9_feed_14 : decode cX9_feed 14 = .ok (.aload_n 0, 1) := by decide +kernel
theorem dX9_feed_15 : decode cX9_feed 15 = .ok (.getfield 65, 3) := by decide +kernel
theorem dX9_feed_18 : decode cX9_feed 18 = .ok (.bipush 100, 2) := by decide +kernel
theorem dX9_feed_20 : decode cX9_feed 20 = .ok (.if_icmp .ne 6, 3) := by decide +kernel
theorem dX9_feed_23 : decode cX9_feed 23 = .ok (.bipush (-4), 2) := by decide +kernel
theorem dX9_feed_25 : decode cX9_feed 25 = .ok (.ireturn, 1) := by decide +kernel
theorem dX9_feed_26 : decode cX9_feed 26 = .ok (.aload_n 0, 1) := by decide +kernel
theorem dX9_feed_27 : decode cX9_feed 27 = .ok (.getfield 74, 3) := by decide +kernel
theorem dX9_feed_30 : decode cX9_feed 30 = .ok (.aload_n 0, 1) := by decide +kernel
theorem dX9_feed_31 : decode cX9_feed 31 = .ok (.getfield 65, 3) := by decide +kernel
theorem dX9_feed_34 : decode cX9_feed 34 = .ok (.iload_n 1, 1) := by decide +kernel
theorem dX9_feed_35 : decode cX9_feed 35 = .ok (.iastore, 1) := by decide +kernel
theorem dX9_feed_36 : decode cX9_feed 36 = .ok (.aload_n 0, 1) := by decide +kernel
theorem dX9_feed_37 : decode cX9_feed 37 = .ok (.dup, 1) := by decide +kernel
theorem dX9_feed_38 : decode cX9_feed 38 = .ok (.getfield 65, 3) := by decide +kernel
theorem dX9_feed_41 : decode cX9_feed 41 = .ok (.iconst 1, 1) := by decide +kernel
theorem dX9_feed_42 : decode cX9_feed 42 = .ok (.iadd, 1) := by decide +kernel
theorem dX9_feed_43 : decode cX9_feed 43 = .ok (.putfield 65, 3) := by decide +kernel
theorem dX9_feed_46 : decode cX9_feed 46 = .ok (.aload_n 0, 1) := by decide +kernel
theorem dX9_feed_47 : decode cX9_feed 47 = .ok (.getfield 65, 3) := by decide +kernel
theorem dX9_feed_50 : decode cX9_feed 50 = .ok (.ireturn, 1) := by decide +kernel
theorem dX9_next_0 : decode cX9_next 0 = .ok (.aload_n 0, 1) := by decide +kernel
theorem dX9_next_1 : decode cX9_next 1 = .ok (.getfield 68, 3) := by decide +kernel
theorem dX9_next_4 : decode cX9_next 4 = .ok (.aload_n 0, 1) := by decide +kernel
theorem dX9_next_5 : decode cX9_next 5 = .ok (.getfield 65, 3) := by decide +kernel
theorem dX9_next_8 : decode cX9_next 8 = .ok (.if_icmp .ge 15, 3) := by decide +kernel
theorem dX9_next_11 : decode cX9_next 11 = .ok (.aload_n 0, 1) := by decide +kernel
theorem dX9_next_12 : decode cX9_next 12 = .ok (.getfield 74, 3) := by decide +kernel
theorem dX9_next_15 : decode cX9_next 15 = .ok (.aload_n 0, 1) := by decide +kernel
theorem dX9_next_16 : decode cX9_next 16 = .ok (.getfield 68, 3) := by decide +kernel
theorem dX9_next_19 : decode cX9_next 19 = .ok (.iaload, 1) := by decide +kernel
theorem dX9_next_20 : decode cX9_next 20 = .ok (.goto 4, 3) := by decide +kernel
theorem dX9_next_23 : decode cX9_next 23 = .ok (.iconst (-1), 1) := by decide +kernel
theorem dX9_next_24 : decode cX9_next 24 = .ok (.ireturn, 1) := by decide +kernel
theorem dX9_takes_0 : decode cX9_takes 0 = .ok (.aload_n 0, 1) := by decide +kernel
theorem dX9_takes_1 : decode cX9_takes 1 = .ok (.invokevirtual 319, 3) := by decide +kernel
theorem dX9_takes_4 : decode cX9_takes 4 = .ok (.iload_n 1, 1) := by decide +kernel
theorem dX9_takes_5 : decode cX9_takes 5 = .ok (.if_icmp .eq 5, 3) := by decide +kernel
theorem dX9_takes_8 : decode cX9_takes 8 = .ok (.iconst 0, 1) := by decide +kernel
theorem dX9_takes_9 : decode cX9_takes 9 = .ok (.ireturn, 1) := by decide +kernel
theorem dX9_takes_10 : decode cX9_takes 10 = .ok (.aload_n 0, 1) := by decide +kernel
theorem dX9_takes_11 : decode cX9_takes 11 = .ok (.dup, 1) := by decide +kernel
theorem dX9_takes_12 : decode cX9_takes 12 = .ok (.getfield 68, 3) := by decide +kernel
theorem dX9_takes_15 : decode cX9_takes 15 = .ok (.iconst 1, 1) := by decide +kernel
theorem dX9_takes_16 : decode cX9_takes 16 = .ok (.iadd, 1) := by decide +kernel
theorem dX9_takes_17 : decode cX9_takes 17 = .ok (.putfield 68, 3) := by decide +kernel
theorem dX9_takes_20 : decode cX9_takes 20 = .ok (.iconst 1, 1) := by decide +kernel
theorem dX9_takes_21 : decode cX9_takes 21 = .ok (.ireturn, 1) := by decide +kernel
theorem dX9_takesWord_0 : decode cX9_takesWord 0 = .ok (.iconst 0, 1) := by decide +kernel
theorem dX9_takesWord_1 : decode cX9_takesWord 1 = .ok (.istore_n 3, 1) := by decide +kernel
theorem dX9_takesWord_2 : decode cX9_takesWord 2 = .ok (.iload_n 3, 1) := by decide +kernel
theorem dX9_takesWord_3 : decode cX9_takesWord 3 = .ok (.iload_n 2, 1) := by decide +kernel
theorem dX9_takesWord_4 : decode cX9_takesWord 4 = .ok (.if_icmp .ge 26, 3) := by decide +kernel
theorem dX9_takesWord_7 : decode cX9_takesWord 7 = .ok (.aload_n 0, 1) := by decide +kernel
theorem dX9_takesWord_8 : decode cX9_takesWord 8 = .ok (.aload_n 0, 1) := by decide +kernel
theorem dX9_takesWord_9 : decode cX9_takesWord 9 = .ok (.getfield 107, 3) := by decide +kernel
theorem dX9_takesWord_12 : decode cX9_takesWord 12 = .ok (.iload_n 1, 1) := by decide +kernel
theorem dX9_takesWord_13 : decode cX9_takesWord 13 = .ok (.iload_n 3, 1) := by decide +kernel
theorem dX9_takesWord_14 : decode cX9_takesWord 14 = .ok (.iadd, 1) := by decide +kernel
theorem dX9_takesWord_15 : decode cX9_takesWord 15 = .ok (.iaload, 1) := by decide +kernel
theorem dX9_takesWord_16 : decode cX9_takesWord 16 = .ok (.invokevirtual 323, 3) := by decide +kernel
theorem dX9_takesWord_19 : decode cX9_takesWord 19 = .ok (.ifCond .ne 5, 3) := by decide +kernel
theorem dX9_takesWord_22 : decode cX9_takesWord 22 = .ok (.iconst 0, 1) := by decide +kernel
theorem dX9_takesWord_23 : decode cX9_takesWord 23 = .ok (.ireturn, 1) := by decide +kernel
theorem dX9_takesWord_24 : decode cX9_takesWord 24 = .ok (.iinc 3 1, 3) := by decide +kernel
theorem dX9_takesWord_27 : decode cX9_takesWord 27 = .ok (.goto (-25), 3) := by decide +kernel
theorem dX9_takesWord_30 : decode cX9_takesWord 30 = .ok (.aload_n 0, 1) := by decide +kernel
theorem dX9_takesWord_31 : decode cX9_takesWord 31 = .ok (.bipush 32, 2) := by decide +kernel
theorem dX9_takesWord_33 : decode cX9_takesWord 33 = .ok (.invokevirtual 323, 3) := by decide +kernel
theorem dX9_takesWord_36 : decode cX9_takesWord 36 = .ok (.ireturn, 1) := by decide +kernel
theorem dX9_isDigit_0 : decode cX9_isDigit 0 = .ok (.aload_n 0, 1) := by decide +kernel
theorem dX9_isDigit_1 : decode cX9_isDigit 1 = .ok (.aload_n 0, 1) := by decide +kernel
theorem dX9_isDigit_2 : decode cX9_isDigit 2 = .ok (.invokevirtual 319, 3) := by decide +kernel
theorem dX9_isDigit_5 : decode cX9_isDigit 5 = .ok (.bipush 48, 2) := by decide +kernel
theorem dX9_isDigit_7 : decode cX9_isDigit 7 = .ok (.bipush 57, 2) := by decide +kernel
theorem dX9_isDigit_9 : decode cX9_isDigit 9 = .ok (.invokevirtual 293, 3) := by decide +kernel
theorem dX9_isDigit_12 : decode cX9_isDigit 12 = .ok (.ireturn, 1) := by decide +kernel
theorem dX9_takesNumber_0 : decode cX9_takesNumber 0 = .ok (.aload_n 0, 1) := by decide +kernel
theorem dX9_takesNumber_1 : decode cX9_takesNumber 1 = .ok (.invokevirtual 326, 3) := by decide +kernel
theorem dX9_takesNumber_4 : decode cX9_takesNumber 4 = .ok (.ifCond .ne 5, 3) := by decide +kernel
theorem dX9_takesNumber_7 : decode cX9_takesNumber 7 = .ok (.iconst 0, 1) := by decide +kernel
theorem dX9_takesNumber_8 : decode cX9_takesNumber 8 = .ok (.ireturn, 1) := by decide +kernel
theorem dX9_takesNumber_9 : decode cX9_takesNumber 9 = .ok (.aload_n 0, 1) := by decide +kernel
theorem dX9_takesNumber_10 : decode cX9_takesNumber 10 = .ok (.iconst 0, 1) := by decide +kernel
theorem dX9_takesNumber_11 : decode cX9_takesNumber 11 = .ok (.putfield 71, 3) := by decide +kernel
theorem dX9_takesNumber_14 : decode cX9_takesNumber 14 = .ok (.iconst 0, 1) := by decide +kernel
theorem dX9_takesNumber_15 : decode cX9_takesNumber 15 = .ok (.istore_n 1, 1) := by decide +kernel
theorem dX9_takesNumber_16 : decode cX9_takesNumber 16 = .ok (.iload_n 1, 1) := by decide +kernel
theorem dX9_takesNumber_17 : decode cX9_takesNumber 17 = .ok (.iconst 2, 1) := by decide +kernel
theorem dX9_takesNumber_18 : decode cX9_takesNumber 18 = .ok (.if_icmp .ge 45, 3) := by decide +kernel
theorem dX9_takesNumber_21 : decode cX9_takesNumber 21 = .ok (.aload_n 0, 1) := by decide +kernel
theorem dX9_takesNumber_22 : decode cX9_takesNumber 22 = .ok (.invokevirtual 326, 3) := by decide +kernel
theorem dX9_takesNumber_25 : decode cX9_takesNumber 25 = .ok (.ifCond .eq 38, 3) := by decide +kernel
theorem dX9_takesNumber_28 : decode cX9_takesNumber 28 = .ok (.aload_n 0, 1) := by decide +kernel
theorem dX9_takesNumber_29 : decode cX9_takesNumber 29 = .ok (.bipush 10, 2) := by decide +kernel
theorem dX9_takesNumber_31 : decode cX9_takesNumber 31 = .ok (.aload_n 0, 1) := by decide +kernel
theorem dX9_takesNumber_32 : decode cX9_takesNumber 32 = .ok (.getfield 71, 3) := by decide +kernel
theorem dX9_takesNumber_35 : decode cX9_takesNumber 35 = .ok (.imul, 1) := by decide +kernel
theorem dX9_takesNumber_36 : decode cX9_takesNumber 36 = .ok (.aload_n 0, 1) := by decide +kernel
theorem dX9_takesNumber_37 : decode cX9_takesNumber 37 = .ok (.invokevirtual 319, 3) := by decide +kernel
theorem dX9_takesNumber_40 : decode cX9_takesNumber 40 = .ok (.iadd, 1) := by decide +kernel
theorem dX9_takesNumber_41 : decode cX9_takesNumber 41 = .ok (.bipush 48, 2) := by decide +kernel
theorem dX9_takesNumber_43 : decode cX9_takesNumber 43 = .ok (.isub, 1) := by decide +kernel
theorem dX9_takesNumber_44 : decode cX9_takesNumber 44 = .ok (.putfield 71, 3) := by decide +kernel
theorem dX9_takesNumber_47 : decode cX9_takesNumber 47 = .ok (.aload_n 0, 1) := by decide +kernel
theorem dX9_takesNumber_48 : decode cX9_takesNumber 48 = .ok (.dup, 1) := by decide +kernel
theorem dX9_takesNumber_49 : decode cX9_takesNumber 49 = .ok (.getfield 68, 3) := by decide +kernel
theorem dX9_takesNumber_52 : decode cX9_takesNumber 52 = .ok (.iconst 1, 1) := by decide +kernel
theorem dX9_takesNumber_53 : decode cX9_takesNumber 53 = .ok (.iadd, 1) := by decide +kernel
theorem dX9_takesNumber_54 : decode cX9_takesNumber 54 = .ok (.putfield 68, 3) := by decide +kernel
theorem dX9_takesNumber_57 : decode cX9_takesNumber 57 = .ok (.iinc 1 1, 3) := by decide +kernel
theorem dX9_takesNumber_60 : decode cX9_takesNumber 60 = .ok (.goto (-44), 3) := by decide +kernel
theorem dX9_takesNumber_63 : decode cX9_takesNumber 63 = .ok (.iconst 1, 1) := by decide +kernel
theorem dX9_takesNumber_64 : decode cX9_takesNumber 64 = .ok (.ireturn, 1) := by decide +kernel
theorem dX9_emits_0 : decode cX9_emits 0 = .ok (.aload_n 0, 1) := by decide +kernel
theorem dX9_emits_1 : decode cX9_emits 1 = .ok (.getfield 92, 3) := by decide +kernel
theorem dX9_emits_4 : decode cX9_emits 4 = .ok (.aload_n 0, 1) := by decide +kernel
theorem dX9_emits_5 : decode cX9_emits 5 = .ok (.getfield 98, 3) := by decide +kernel
theorem dX9_emits_8 : decode cX9_emits 8 = .ok (.iload_n 1, 1) := by decide +kernel
theorem dX9_emits_9 : decode cX9_emits 9 = .ok (.iastore, 1) := by decide +kernel
theorem dX9_emits_10 : decode cX9_emits 10 = .ok (.aload_n 0, 1) := by decide +kernel
theorem dX9_emits_11 : decode cX9_emits 11 = .ok (.dup, 1) := by decide +kernel
theorem dX9_emits_12 : decode cX9_emits 12 = .ok (.getfield 98, 3) := by decide +kernel
theorem dX9_emits_15 : decode cX9_emits 15 = .ok (.iconst 1, 1) := by decide +kernel
theorem dX9_emits_16 : decode cX9_emits 16 = .ok (.iadd, 1) := by decide +kernel
theorem dX9_emits_17 : decode cX9_emits 17 = .ok (.putfield 98, 3) := by decide +kernel
theorem dX9_emits_20 : decode cX9_emits 20 = .ok (.return_, 1) := by decide +kernel
theorem dX9_whole_0 : decode cX9_whole 0 = .ok (.aload_n 0, 1) := by decide +kernel
theorem dX9_whole_1 : decode cX9_whole 1 = .ok (.getfield 101, 3) := by decide +kernel
theorem dX9_whole_4 : decode cX9_whole 4 = .ok (.ifCond .le 48, 3) := by decide +kernel
theorem dX9_whole_7 : decode cX9_whole 7 = .ok (.aload_n 0, 1) := by decide +kernel
theorem dX9_whole_8 : decode cX9_whole 8 = .ok (.getfield 95, 3) := by decide +kernel
theorem dX9_whole_11 : decode cX9_whole 11 = .ok (.aload_n 0, 1) := by decide +kernel
theorem dX9_whole_12 : decode cX9_whole 12 = .ok (.getfield 101, 3) := by decide +kernel
theorem dX9_whole_15 : decode cX9_whole 15 = .ok (.iconst 1, 1) := by decide +kernel
theorem dX9_whole_16 : decode cX9_whole 16 = .ok (.isub, 1) := by decide +kernel
theorem dX9_whole_17 : decode cX9_whole 17 = .ok (.iaload, 1) := by decide +kernel
theorem dX9_whole_18 : decode cX9_whole 18 = .ok (.bipush 33, 2) := by decide +kernel
theorem dX9_whole_20 : decode cX9_whole 20 = .ok (.if_icmp .ne 32, 3) := by decide +kernel
theorem dX9_whole_23 : decode cX9_whole 23 = .ok (.aload_n 0, 1) := by decide +kernel
theorem dX9_whole_24 : decode cX9_whole 24 = .ok (.bipush (-33), 2) := by decide +kernel
theorem dX9_whole_26 : decode cX9_whole 26 = .ok (.invokevirtual 330, 3) := by decide +kernel
theorem dX9_whole_29 : decode cX9_whole 29 = .ok (.aload_n 0, 1) := by decide +kernel
theorem dX9_whole_30 : decode cX9_whole 30 = .ok (.dup, 1) := by decide +kernel
theorem dX9_whole_31 : decode cX9_whole 31 = .ok (.getfield 101, 3) := by decide +kernel
theorem dX9_whole_34 : decode cX9_whole 34 = .ok (.iconst 1, 1) := by decide +kernel
theorem dX9_whole_35 : decode cX9_whole 35 = .ok (.isub, 1) := by decide +kernel
theorem dX9_whole_36 : decode cX9_whole 36 = .ok (.putfield 101, 3) := by decide +kernel
theorem dX9_whole_39 : decode cX9_whole 39 = .ok (.aload_n 0, 1) := by decide +kernel
theorem dX9_whole_40 : decode cX9_whole 40 = .ok (.dup, 1) := by decide +kernel
theorem dX9_whole_41 : decode cX9_whole 41 = .ok (.getfield 104, 3) := by decide +kernel
theorem dX9_whole_44 : decode cX9_whole 44 = .ok (.iconst 1, 1) := by decide +kernel
theorem dX9_whole_45 : decode cX9_whole 45 = .ok (.isub, 1) := by decide +kernel
theorem dX9_whole_46 : decode cX9_whole 46 = .ok (.putfield 104, 3) := by decide +kernel
theorem dX9_whole_49 : decode cX9_whole 49 = .ok (.goto (-49), 3) := by decide +kernel
theorem dX9_whole_52 : decode cX9_whole 52 = .ok (.return_, 1) := by decide +kernel
theorem dX9_settle_0 : decode cX9_settle 0 = .ok (.aload_n 0, 1) := by decide +kernel
theorem dX9_settle_1 : decode cX9_settle 1 = .ok (.getfield 101, 3) := by decide +kernel
theorem dX9_settle_4 : decode cX9_settle 4 = .ok (.ifCond .le 68, 3) := by decide +kernel
theorem dX9_settle_7 : decode cX9_settle 7 = .ok (.aload_n 0, 1) := by decide +kernel
theorem dX9_settle_8 : decode cX9_settle 8 = .ok (.getfield 95, 3) := by decide +kernel
theorem dX9_settle_11 : decode cX9_settle 11 = .ok (.aload_n 0, 1) := by decide +kernel
theorem dX9_settle_12 : decode cX9_settle 12 = .ok (.getfield 101, 3) := by decide +kernel
theorem dX9_settle_15 : decode cX9_settle 15 = .ok (.iconst 1, 1) := by decide +kernel
theorem dX9_settle_16 : decode cX9_settle 16 = .ok (.isub, 1) := by decide +kernel
theorem dX9_settle_17 : decode cX9_settle 17 = .ok (.iaload, 1) := by decide +kernel
theorem dX9_settle_18 : decode cX9_settle 18 = .ok (.bipush 38, 2) := by decide +kernel
theorem dX9_settle_20 : decode cX9_settle 20 = .ok (.if_icmp .eq 25, 3) := by decide +kernel
theorem dX9_settle_23 : decode cX9_settle 23 = .ok (.aload_n 0, 1) := by decide +kernel
theorem dX9_settle_24 : decode cX9_settle 24 = .ok (.getfield 95, 3) := by decide +kernel
theorem dX9_settle_27 : decode cX9_settle 27 = .ok (.aload_n 0, 1) := by decide +kernel
theorem dX9_settle_28 : decode cX9_settle 28 = .ok (.getfield 101, 3) := by decide +kernel
theorem dX9_settle_31 : decode cX9_settle 31 = .ok (.iconst 1, 1) := by decide +kernel
theorem dX9_settle_32 : decode cX9_settle 32 = .ok (.isub, 1) := by decide +kernel
theorem dX9_settle_33 : decode cX9_settle 33 = .ok (.iaload, 1) := by decide +kernel
theorem dX9_settle_34 : decode cX9_settle 34 = .ok (.bipush 124, 2) := by decide +kernel
theorem dX9_settle_36 : decode cX9_settle 36 = .ok (.if_icmp .ne 36, 3) := by decide +kernel
theorem dX9_settle_39 : decode cX9_settle 39 = .ok (.iload_n 1, 1) := by decide +kernel
theorem dX9_settle_40 : decode cX9_settle 40 = .ok (.bipush 38, 2) := by decide +kernel
theorem dX9_settle_42 : decode cX9_settle 42 = .ok (.if_icmp .eq 30, 3) := by decide +kernel
theorem dX9_settle_45 : decode cX9_settle 45 = .ok (.aload_n 0, 1) := by decide +kernel
theorem dX9_settle_46 : decode cX9_settle 46 = .ok (.dup, 1) := by decide +kernel
theorem dX9_settle_47 : decode cX9_settle 47 = .ok (.getfield 101, 3) := by decide +kernel
theorem dX9_settle_50 : decode cX9_settle 50 = .ok (.iconst 1, 1) := by decide +kernel
theorem dX9_settle_51 : decode cX9_settle 51 = .ok (.isub, 1) := by decide +kernel
theorem dX9_settle_52 : decode cX9_settle 52 = .ok (.putfield 101, 3) := by decide +kernel
theorem dX9_settle_55 : decode cX9_settle 55 = .ok (.aload_n 0, 1) := by decide +kernel
theorem dX9_settle_56 : decode cX9_settle 56 = .ok (.aload_n 0, 1) := by decide +kernel
theorem dX9_settle_57 : decode cX9_settle 57 = .ok (.getfield 95, 3) := by decide +kernel
theorem dX9_settle_60 : decode cX9_settle 60 = .ok (.aload_n 0, 1) := by decide +kernel
theorem dX9_settle_61 : decode cX9_settle 61 = .ok (.getfield 101, 3) := by decide +kernel
theorem dX9_settle_64 : decode cX9_settle 64 = .ok (.iaload, 1) := by decide +kernel
theorem dX9_settle_65 : decode cX9_settle 65 = .ok (.ineg, 1) := by decide +kernel
theorem dX9_settle_66 : decode cX9_settle 66 = .ok (.invokevirtual 330, 3) := by decide +kernel
theorem dX9_settle_69 : decode cX9_settle 69 = .ok (.goto (-69), 3) := by decide +kernel
theorem dX9_settle_72 : decode cX9_settle 72 = .ok (.return_, 1) := by decide +kernel
theorem dX9_place_0 : decode cX9_place 0 = .ok (.iload_n 1, 1) := by decide +kernel
theorem dX9_place_1 : decode cX9_place 1 = .ok (.tableswitch 99 102 119 #[95, 99, 99, 99, 99, 89, 99, 97, 99, 99, 87, 99, 99, 99, 99, 99, 91, 93], 87) := by decide +kernel
theorem dX9_place_88 : decode cX9_place 88 = .ok (.iconst 0, 1) := by decide +kernel
theorem dX9_place_89 : decode cX9_place 89 = .ok (.ireturn, 1) := by decide +kernel
theorem dX9_place_90 : decode cX9_place 90 = .ok (.iconst 1, 1) := by decide +kernel
theorem dX9_place_91 : decode cX9_place 91 = .ok (.ireturn, 1) := by decide +kernel
theorem dX9_place_92 : decode cX9_place 92 = .ok (.iconst 2, 1) := by decide +kernel
theorem dX9_place_93 : decode cX9_place 93 = .ok (.ireturn, 1) := by decide +kernel
theorem dX9_place_94 : decode cX9_place 94 = .ok (.iconst 3, 1) := by decide +kernel
theorem dX9_place_95 : decode cX9_place 95 = .ok (.ireturn, 1) := by decide +kernel
theorem dX9_place_96 : decode cX9_place 96 = .ok (.iconst 4, 1) := by decide +kernel
theorem dX9_place_97 : decode cX9_place 97 = .ok (.ireturn, 1) := by decide +kernel
theorem dX9_place_98 : decode cX9_place 98 = .ok (.iconst 5, 1) := by decide +kernel
theorem dX9_place_99 : decode cX9_place 99 = .ok (.ireturn, 1) := by decide +kernel
theorem dX9_place_100 : decode cX9_place 100 = .ok (.iconst (-1), 1) := by decide +kernel
theorem dX9_place_101 : decode cX9_place 101 = .ok (.ireturn, 1) := by decide +kernel
theorem dX9_takesTest_0 : decode cX9_takesTest 0 = .ok (.aload_n 0, 1) := by decide +kernel
theorem dX9_takesTest_1 : decode cX9_takesTest 1 = .ok (.aload_n 0, 1) := by decide +kernel
theorem dX9_takesTest_2 : decode cX9_takesTest 2 = .ok (.invokevirtual 319, 3) := by decide +kernel
theorem dX9_takesTest_5 : decode cX9_takesTest 5 = .ok (.invokevirtual 334, 3) := by decide +kernel
theorem dX9_takesTest_8 : decode cX9_takesTest 8 = .ok (.istore_n 1, 1) := by decide +kernel
theorem dX9_takesTest_9 : decode cX9_takesTest 9 = .ok (.iload_n 1, 1) := by decide +kernel
theorem dX9_takesTest_10 : decode cX9_takesTest 10 = .ok (.ifCond .ge 5, 3) := by decide +kernel
theorem dX9_takesTest_13 : decode cX9_takesTest 13 = .ok (.iconst 0, 1) := by decide +kernel
theorem dX9_takesTest_14 : decode cX9_takesTest 14 = .ok (.ireturn, 1) := by decide +kernel
theorem dX9_takesTest_15 : decode cX9_takesTest 15 = .ok (.aload_n 0, 1) := by decide +kernel
theorem dX9_takesTest_16 : decode cX9_takesTest 16 = .ok (.dup, 1) := by decide +kernel
theorem dX9_takesTest_17 : decode cX9_takesTest 17 = .ok (.getfield 68, 3) := by decide +kernel
theorem dX9_takesTest_20 : decode cX9_takesTest 20 = .ok (.iconst 1, 1) := by decide +kernel
theorem dX9_takesTest_21 : decode cX9_takesTest 21 = .ok (.iadd, 1) := by decide +kernel
theorem dX9_takesTest_22 : decode cX9_takesTest 22 = .ok (.putfield 68, 3) := by decide +kernel
theorem dX9_takesTest_25 : decode cX9_takesTest 25 = .ok (.aload_n 0, 1) := by decide +kernel
theorem dX9_takesTest_26 : decode cX9_takesTest 26 = .ok (.invokevirtual 319, 3) := by decide +kernel
theorem dX9_takesTest_29 : decode cX9_takesTest 29 = .ok (.istore_n 2, 1) := by decide +kernel
theorem dX9_takesTest_30 : decode cX9_takesTest 30 = .ok (.aload_n 0, 1) := by decide +kernel
theorem dX9_takesTest_31 : decode cX9_takesTest 31 = .ok (.iload_n 2, 1) := by decide +kernel
theorem dX9_takesTest_32 : decode cX9_takesTest 32 = .ok (.bipush 60, 2) := by decide +kernel
theorem dX9_takesTest_34 : decode cX9_takesTest 34 = .ok (.bipush 62, 2) := by decide +kernel
theorem dX9_takesTest_36 : decode cX9_takesTest 36 = .ok (.invokevirtual 293, 3) := by decide +kernel
theorem dX9_takesTest_39 : decode cX9_takesTest 39 = .ok (.ifCond .ne 5, 3) := by decide +kernel
theorem dX9_takesTest_42 : decode cX9_takesTest 42 = .ok (.iconst 0, 1) := by decide +kernel
theorem dX9_takesTest_43 : decode cX9_takesTest 43 = .ok (.ireturn, 1) := by decide +kernel
theorem dX9_takesTest_44 : decode cX9_takesTest 44 = .ok (.aload_n 0, 1) := by decide +kernel
theorem dX9_takesTest_45 : decode cX9_takesTest 45 = .ok (.dup, 1) := by decide +kernel
theorem dX9_takesTest_46 : decode cX9_takesTest 46 = .ok (.getfield 68, 3) := by decide +kernel
theorem dX9_takesTest_49 : decode cX9_takesTest 49 = .ok (.iconst 1, 1) := by decide +kernel
theorem dX9_takesTest_50 : decode cX9_takesTest 50 = .ok (.iadd, 1) := by decide +kernel
theorem dX9_takesTest_51 : decode cX9_takesTest 51 = .ok (.putfield 68, 3) := by decide +kernel
theorem dX9_takesTest_54 : decode cX9_takesTest 54 = .ok (.aload_n 0, 1) := by decide +kernel
theorem dX9_takesTest_55 : decode cX9_takesTest 55 = .ok (.invokevirtual 338, 3) := by decide +kernel
theorem dX9_takesTest_58 : decode cX9_takesTest 58 = .ok (.ifCond .ne 5, 3) := by decide +kernel
theorem dX9_takesTest_61 : decode cX9_takesTest 61 = .ok (.iconst 0, 1) := by decide +kernel
theorem dX9_takesTest_62 : decode cX9_takesTest 62 = .ok (.ireturn, 1) := by decide +kernel
theorem dX9_takesTest_63 : decode cX9_takesTest 63 = .ok (.aload_n 0, 1) := by decide +kernel
theorem dX9_takesTest_64 : decode cX9_takesTest 64 = .ok (.sipush 1000, 3) := by decide +kernel
theorem dX9_takesTest_67 : decode cX9_takesTest 67 = .ok (.iload_n 1, 1) := by decide +kernel
theorem dX9_takesTest_68 : decode cX9_takesTest 68 = .ok (.imul, 1) := by decide +kernel
theorem dX9_takesTest_69 : decode cX9_takesTest 69 = .ok (.bipush 100, 2) := by decide +kernel
theorem dX9_takesTest_71 : decode cX9_takesTest 71 = .ok (.iload_n 2, 1) := by decide +kernel
theorem dX9_takesTest_72 : decode cX9_takesTest 72 = .ok (.bipush 60, 2) := by decide +kernel
theorem dX9_takesTest_74 : decode cX9_takesTest 74 = .ok (.isub, 1) := by decide +kernel
theorem dX9_takesTest_75 : decode cX9_takesTest 75 = .ok (.imul, 1) := by decide +kernel
theorem dX9_takesTest_76 : decode cX9_takesTest 76 = .ok (.iadd, 1) := by decide +kernel
theorem dX9_takesTest_77 : decode cX9_takesTest 77 = .ok (.aload_n 0, 1) := by decide +kernel
theorem dX9_takesTest_78 : decode cX9_takesTest 78 = .ok (.getfield 71, 3) := by decide +kernel
theorem dX9_takesTest_81 : decode cX9_takesTest 81 = .ok (.iadd, 1) := by decide +kernel
theorem dX9_takesTest_82 : decode cX9_takesTest 82 = .ok (.invokevirtual 330, 3) := by decide +kernel
theorem dX9_takesTest_85 : decode cX9_takesTest 85 = .ok (.aload_n 0, 1) := by decide +kernel
theorem dX9_takesTest_86 : decode cX9_takesTest 86 = .ok (.invokevirtual 341, 3) := by decide +kernel
theorem dX9_takesTest_89 : decode cX9_takesTest 89 = .ok (.iconst 1, 1) := by decide +kernel
theorem dX9_takesTest_90 : decode cX9_takesTest 90 = .ok (.ireturn, 1) := by decide +kernel
theorem dX9_takesE_0 : decode cX9_takesE 0 = .ok (.aload_n 0, 1) := by decide +kernel
theorem dX9_takesE_1 : decode cX9_takesE 1 = .ok (.iconst 0, 1) := by decide +kernel
theorem dX9_takesE_2 : decode cX9_takesE 2 = .ok (.putfield 101, 3) := by decide +kernel
theorem dX9_takesE_5 : decode cX9_takesE 5 = .ok (.aload_n 0, 1) := by decide +kernel
theorem dX9_takesE_6 : decode cX9_takesE 6 = .ok (.iconst 0, 1) := by decide +kernel
theorem dX9_takesE_7 : decode cX9_takesE 7 = .ok (.putfield 104, 3) := by decide +kernel
theorem dX9_takesE_10 : decode cX9_takesE 10 = .ok (.aload_n 0, 1) := by decide +kernel
theorem dX9_takesE_11 : decode cX9_takesE 11 = .ok (.getfield 86, 3) := by decide +kernel
theorem dX9_takesE_14 : decode cX9_takesE 14 = .ok (.iload_n 1, 1) := by decide +kernel
theorem dX9_takesE_15 : decode cX9_takesE 15 = .ok (.aload_n 0, 1) := by decide +kernel
theorem dX9_takesE_16 : decode cX9_takesE 16 = .ok (.getfield 98, 3) := by decide +kernel
theorem dX9_takesE_19 : decode cX9_takesE 19 = .ok (.iastore, 1) := by decide +kernel
theorem dX9_takesE_20 : decode cX9_takesE 20 = .ok (.iconst 1, 1) := by decide +kernel
theorem dX9_takesE_21 : decode cX9_takesE 21 = .ok (.istore_n 2, 1) := by decide +kernel
theorem dX9_takesE_22 : decode cX9_takesE 22 = .ok (.aload_n 0, 1) := by decide +kernel
theorem dX9_takesE_23 : decode cX9_takesE 23 = .ok (.invokevirtual 319, 3) := by decide +kernel
theorem dX9_takesE_26 : decode cX9_takesE 26 = .ok (.istore_n 3, 1) := by decide +kernel
theorem dX9_takesE_27 : decode cX9_takesE 27 = .ok (.iload_n 2, 1) := by decide +kernel
theorem dX9_takesE_28 : decode cX9_takesE 28 = .ok (.ifCond .eq 82, 3) := by decide +kernel
theorem dX9_takesE_31 : decode cX9_takesE 31 = .ok (.iload_n 3, 1) := by decide +kernel
theorem dX9_takesE_32 : decode cX9_takesE 32 = .ok (.bipush 33, 2) := by decide +kernel
theorem dX9_takesE_34 : decode cX9_takesE 34 = .ok (.if_icmp .eq 9, 3) := by decide +kernel
theorem dX9_takesE_37 : decode cX9_takesE 37 = .ok (.iload_n 3, 1) := by decide +kernel
theorem dX9_takesE_38 : decode cX9_takesE 38 = .ok (.bipush 40, 2) := by decide +kernel
theorem dX9_takesE_40 : decode cX9_takesE 40 = .ok (.if_icmp .ne 56, 3) := by decide +kernel
theorem dX9_takesE_43 : decode cX9_takesE 43 = .ok (.aload_n 0, 1) := by decide +kernel
theorem dX9_takesE_44 : decode cX9_takesE 44 = .ok (.getfield 104, 3) := by decide +kernel
theorem dX9_takesE_47 : decode cX9_takesE 47 = .ok (.iconst 4, 1) := by decide +kernel
theorem dX9_takesE_48 : decode cX9_takesE 48 = .ok (.if_icmp .ne 5, 3) := by decide +kernel
theorem dX9_takesE_51 : decode cX9_takesE 51 = .ok (.iconst 0, 1) := by decide +kernel
theorem dX9_takesE_52 : decode cX9_takesE 52 = .ok (.ireturn, 1) := by decide +kernel
theorem dX9_takesE_53 : decode cX9_takesE 53 = .ok (.aload_n 0, 1) := by decide +kernel
theorem dX9_takesE_54 : decode cX9_takesE 54 = .ok (.dup, 1) := by decide +kernel
theorem dX9_takesE_55 : decode cX9_takesE 55 = .ok (.getfield 104, 3) := by decide +kernel
theorem dX9_takesE_58 : decode cX9_takesE 58 = .ok (.iconst 1, 1) := by decide +kernel
theorem dX9_takesE_59 : decode cX9_takesE 59 = .ok (.iadd, 1) := by decide +kernel
theorem dX9_takesE_60 : decode cX9_takesE 60 = .ok (.putfield 104, 3) := by decide +kernel
theorem dX9_takesE_63 : decode cX9_takesE 63 = .ok (.aload_n 0, 1) := by decide +kernel
theorem dX9_takesE_64 : decode cX9_takesE 64 = .ok (.getfield 95, 3) := by decide +kernel
theorem dX9_takesE_67 : decode cX9_takesE 67 = .ok (.aload_n 0, 1) := by decide +kernel
theorem dX9_takesE_68 : decode cX9_takesE 68 = .ok (.getfield 101, 3) := by decide +kernel
theorem dX9_takesE_71 : decode cX9_takesE 71 = .ok (.iload_n 3, 1) := by decide +kernel
end
section
theorem dX9_takesE_72 : decode cX9_takesE 72 = .ok (.iastore, 1) := by decide +kernel
theorem dX9_takesE_73 : decode cX9_takesE 73 = .ok (.aload_n 0, 1) := by decide +kernel
theorem dX9_takesE_74 : decode cX9_takesE 74 = .ok (.dup, 1) := by decide +kernel
theorem dX9_takesE_75 : decode cX9_takesE 75 = .ok (.getfield 101, 3) := by decide +kernel
theorem dX9_takesE_78 : decode cX9_takesE 78 = .ok (.iconst 1, 1) := by decide +kernel
theorem dX9_takesE_79 : decode cX9_takesE 79 = .ok (.iadd, 1) := by decide +kernel
theorem dX9_takesE_80 : decode cX9_takesE 80 = .ok (.putfield 101, 3) := by decide +kernel
theorem dX9_takesE_83 : decode cX9_takesE 83 = .ok (.aload_n 0, 1) := by decide +kernel
theorem dX9_takesE_84 : decode cX9_takesE 84 = .ok (.dup, 1) := by decide +kernel
theorem dX9_takesE_85 : decode cX9_takesE 85 = .ok (.getfield 68, 3) := by decide +kernel
theorem dX9_takesE_88 : decode cX9_takesE 88 = .ok (.iconst 1, 1) := by decide +kernel
theorem dX9_takesE_89 : decode cX9_takesE 89 = .ok (.iadd, 1) := by decide +kernel
theorem dX9_takesE_90 : decode cX9_takesE 90 = .ok (.putfield 68, 3) := by decide +kernel
theorem dX9_takesE_93 : decode cX9_takesE 93 = .ok (.goto (-71), 3) := by decide +kernel
theorem dX9_takesE_96 : decode cX9_takesE 96 = .ok (.aload_n 0, 1) := by decide +kernel
theorem dX9_takesE_97 : decode cX9_takesE 97 = .ok (.invokevirtual 344, 3) := by decide +kernel
theorem dX9_takesE_100 : decode cX9_takesE 100 = .ok (.ifCond .eq 8, 3) := by decide +kernel
theorem dX9_takesE_103 : decode cX9_takesE 103 = .ok (.iconst 0, 1) := by decide +kernel
theorem dX9_takesE_104 : decode cX9_takesE 104 = .ok (.istore_n 2, 1) := by decide +kernel
theorem dX9_takesE_105 : decode cX9_takesE 105 = .ok (.goto (-83), 3) := by decide +kernel
theorem dX9_takesE_108 : decode cX9_takesE 108 = .ok (.iconst 0, 1) := by decide +kernel
theorem dX9_takesE_109 : decode cX9_takesE 109 = .ok (.ireturn, 1) := by decide +kernel
theorem dX9_takesE_110 : decode cX9_takesE 110 = .ok (.iload_n 3, 1) := by decide +kernel
theorem dX9_takesE_111 : decode cX9_takesE 111 = .ok (.bipush 38, 2) := by decide +kernel
theorem dX9_takesE_113 : decode cX9_takesE 113 = .ok (.if_icmp .eq 9, 3) := by decide +kernel
theorem dX9_takesE_116 : decode cX9_takesE 116 = .ok (.iload_n 3, 1) := by decide +kernel
theorem dX9_takesE_117 : decode cX9_takesE 117 = .ok (.bipush 124, 2) := by decide +kernel
theorem dX9_takesE_119 : decode cX9_takesE 119 = .ok (.if_icmp .ne 43, 3) := by decide +kernel
theorem dX9_takesE_122 : decode cX9_takesE 122 = .ok (.aload_n 0, 1) := by decide +kernel
theorem dX9_takesE_123 : decode cX9_takesE 123 = .ok (.iload_n 3, 1) := by decide +kernel
theorem dX9_takesE_124 : decode cX9_takesE 124 = .ok (.invokevirtual 347, 3) := by decide +kernel
theorem dX9_takesE_127 : decode cX9_takesE 127 = .ok (.aload_n 0, 1) := by decide +kernel
theorem dX9_takesE_128 : decode cX9_takesE 128 = .ok (.getfield 95, 3) := by decide +kernel
theorem dX9_takesE_131 : decode cX9_takesE 131 = .ok (.aload_n 0, 1) := by decide +kernel
theorem dX9_takesE_132 : decode cX9_takesE 132 = .ok (.getfield 101, 3) := by decide +kernel
theorem dX9_takesE_135 : decode cX9_takesE 135 = .ok (.iload_n 3, 1) := by decide +kernel
theorem dX9_takesE_136 : decode cX9_takesE 136 = .ok (.iastore, 1) := by decide +kernel
theorem dX9_takesE_137 : decode cX9_takesE 137 = .ok (.aload_n 0, 1) := by decide +kernel
theorem dX9_takesE_138 : decode cX9_takesE 138 = .ok (.dup, 1) := by decide +kernel
theorem dX9_takesE_139 : decode cX9_takesE 139 = .ok (.getfield 101, 3) := by decide +kernel
theorem dX9_takesE_142 : decode cX9_takesE 142 = .ok (.iconst 1, 1) := by decide +kernel
theorem dX9_takesE_143 : decode cX9_takesE 143 = .ok (.iadd, 1) := by decide +kernel
theorem dX9_takesE_144 : decode cX9_takesE 144 = .ok (.putfield 101, 3) := by decide +kernel
theorem dX9_takesE_147 : decode cX9_takesE 147 = .ok (.iconst 1, 1) := by decide +kernel
theorem dX9_takesE_148 : decode cX9_takesE 148 = .ok (.istore_n 2, 1) := by decide +kernel
theorem dX9_takesE_149 : decode cX9_takesE 149 = .ok (.aload_n 0, 1) := by decide +kernel
theorem dX9_takesE_150 : decode cX9_takesE 150 = .ok (.dup, 1) := by decide +kernel
theorem dX9_takesE_151 : decode cX9_takesE 151 = .ok (.getfield 68, 3) := by decide +kernel
theorem dX9_takesE_154 : decode cX9_takesE 154 = .ok (.iconst 1, 1) := by decide +kernel
theorem dX9_takesE_155 : decode cX9_takesE 155 = .ok (.iadd, 1) := by decide +kernel
theorem dX9_takesE_156 : decode cX9_takesE 156 = .ok (.putfield 68, 3) := by decide +kernel
theorem dX9_takesE_159 : decode cX9_takesE 159 = .ok (.goto (-137), 3) := by decide +kernel
theorem dX9_takesE_162 : decode cX9_takesE 162 = .ok (.aload_n 0, 1) := by decide +kernel
theorem dX9_takesE_163 : decode cX9_takesE 163 = .ok (.bipush 124, 2) := by decide +kernel
theorem dX9_takesE_165 : decode cX9_takesE 165 = .ok (.invokevirtual 347, 3) := by decide +kernel
theorem dX9_takesE_168 : decode cX9_takesE 168 = .ok (.aload_n 0, 1) := by decide +kernel
theorem dX9_takesE_169 : decode cX9_takesE 169 = .ok (.getfield 89, 3) := by decide +kernel
theorem dX9_takesE_172 : decode cX9_takesE 172 = .ok (.iload_n 1, 1) := by decide +kernel
theorem dX9_takesE_173 : decode cX9_takesE 173 = .ok (.aload_n 0, 1) := by decide +kernel
theorem dX9_takesE_174 : decode cX9_takesE 174 = .ok (.getfield 98, 3) := by decide +kernel
theorem dX9_takesE_177 : decode cX9_takesE 177 = .ok (.iastore, 1) := by decide +kernel
theorem dX9_takesE_178 : decode cX9_takesE 178 = .ok (.aload_n 0, 1) := by decide +kernel
theorem dX9_takesE_179 : decode cX9_takesE 179 = .ok (.getfield 101, 3) := by decide +kernel
theorem dX9_takesE_182 : decode cX9_takesE 182 = .ok (.ifCond .ne 5, 3) := by decide +kernel
theorem dX9_takesE_185 : decode cX9_takesE 185 = .ok (.iconst 1, 1) := by decide +kernel
theorem dX9_takesE_186 : decode cX9_takesE 186 = .ok (.ireturn, 1) := by decide +kernel
theorem dX9_takesE_187 : decode cX9_takesE 187 = .ok (.iload_n 3, 1) := by decide +kernel
theorem dX9_takesE_188 : decode cX9_takesE 188 = .ok (.bipush 41, 2) := by decide +kernel
theorem dX9_takesE_190 : decode cX9_takesE 190 = .ok (.if_icmp .eq 5, 3) := by decide +kernel
theorem dX9_takesE_193 : decode cX9_takesE 193 = .ok (.iconst 0, 1) := by decide +kernel
theorem dX9_takesE_194 : decode cX9_takesE 194 = .ok (.ireturn, 1) := by decide +kernel
theorem dX9_takesE_195 : decode cX9_takesE 195 = .ok (.aload_n 0, 1) := by decide +kernel
theorem dX9_takesE_196 : decode cX9_takesE 196 = .ok (.dup, 1) := by decide +kernel
theorem dX9_takesE_197 : decode cX9_takesE 197 = .ok (.getfield 101, 3) := by decide +kernel
theorem dX9_takesE_200 : decode cX9_takesE 200 = .ok (.iconst 1, 1) := by decide +kernel
theorem dX9_takesE_201 : decode cX9_takesE 201 = .ok (.isub, 1) := by decide +kernel
theorem dX9_takesE_202 : decode cX9_takesE 202 = .ok (.putfield 101, 3) := by decide +kernel
theorem dX9_takesE_205 : decode cX9_takesE 205 = .ok (.aload_n 0, 1) := by decide +kernel
theorem dX9_takesE_206 : decode cX9_takesE 206 = .ok (.dup, 1) := by decide +kernel
theorem dX9_takesE_207 : decode cX9_takesE 207 = .ok (.getfield 104, 3) := by decide +kernel
theorem dX9_takesE_210 : decode cX9_takesE 210 = .ok (.iconst 1, 1) := by decide +kernel
theorem dX9_takesE_211 : decode cX9_takesE 211 = .ok (.isub, 1) := by decide +kernel
theorem dX9_takesE_212 : decode cX9_takesE 212 = .ok (.putfield 104, 3) := by decide +kernel
theorem dX9_takesE_215 : decode cX9_takesE 215 = .ok (.aload_n 0, 1) := by decide +kernel
theorem dX9_takesE_216 : decode cX9_takesE 216 = .ok (.dup, 1) := by decide +kernel
theorem dX9_takesE_217 : decode cX9_takesE 217 = .ok (.getfield 68, 3) := by decide +kernel
theorem dX9_takesE_220 : decode cX9_takesE 220 = .ok (.iconst 1, 1) := by decide +kernel
theorem dX9_takesE_221 : decode cX9_takesE 221 = .ok (.iadd, 1) := by decide +kernel
theorem dX9_takesE_222 : decode cX9_takesE 222 = .ok (.putfield 68, 3) := by decide +kernel
theorem dX9_takesE_225 : decode cX9_takesE 225 = .ok (.aload_n 0, 1) := by decide +kernel
theorem dX9_takesE_226 : decode cX9_takesE 226 = .ok (.invokevirtual 341, 3) := by decide +kernel
theorem dX9_takesE_229 : decode cX9_takesE 229 = .ok (.goto (-207), 3) := by decide +kernel
theorem dX9_takesHead_0 : decode cX9_takesHead 0 = .ok (.aload_n 0, 1) := by decide +kernel
theorem dX9_takesHead_1 : decode cX9_takesHead 1 = .ok (.invokevirtual 319, 3) := by decide +kernel
theorem dX9_takesHead_4 : decode cX9_takesHead 4 = .ok (.lookupswitch 79 #[(98, 64), (100, 50), (107, 36)], 36) := by decide +kernel
theorem dX9_takesHead_40 : decode cX9_takesHead 40 = .ok (.aload_n 0, 1) := by decide +kernel
theorem dX9_takesHead_41 : decode cX9_takesHead 41 = .ok (.getfield 80, 3) := by decide +kernel
theorem dX9_takesHead_44 : decode cX9_takesHead 44 = .ok (.iload_n 1, 1) := by decide +kernel
theorem dX9_takesHead_45 : decode cX9_takesHead 45 = .ok (.iconst 0, 1) := by decide +kernel
theorem dX9_takesHead_46 : decode cX9_takesHead 46 = .ok (.iastore, 1) := by decide +kernel
theorem dX9_takesHead_47 : decode cX9_takesHead 47 = .ok (.aload_n 0, 1) := by decide +kernel
theorem dX9_takesHead_48 : decode cX9_takesHead 48 = .ok (.iconst 0, 1) := by decide +kernel
theorem dX9_takesHead_49 : decode cX9_takesHead 49 = .ok (.iconst 4, 1) := by decide +kernel
theorem dX9_takesHead_50 : decode cX9_takesHead 50 = .ok (.invokevirtual 350, 3) := by decide +kernel
theorem dX9_takesHead_53 : decode cX9_takesHead 53 = .ok (.ireturn, 1) := by decide +kernel
theorem dX9_takesHead_54 : decode cX9_takesHead 54 = .ok (.aload_n 0, 1) := by decide +kernel
theorem dX9_takesHead_55 : decode cX9_takesHead 55 = .ok (.getfield 80, 3) := by decide +kernel
theorem dX9_takesHead_58 : decode cX9_takesHead 58 = .ok (.iload_n 1, 1) := by decide +kernel
theorem dX9_takesHead_59 : decode cX9_takesHead 59 = .ok (.iconst 1, 1) := by decide +kernel
theorem dX9_takesHead_60 : decode cX9_takesHead 60 = .ok (.iastore, 1) := by decide +kernel
theorem dX9_takesHead_61 : decode cX9_takesHead 61 = .ok (.aload_n 0, 1) := by decide +kernel
theorem dX9_takesHead_62 : decode cX9_takesHead 62 = .ok (.iconst 4, 1) := by decide +kernel
theorem dX9_takesHead_63 : decode cX9_takesHead 63 = .ok (.iconst 4, 1) := by decide +kernel
theorem dX9_takesHead_64 : decode cX9_takesHead 64 = .ok (.invokevirtual 350, 3) := by decide +kernel
theorem dX9_takesHead_67 : decode cX9_takesHead 67 = .ok (.ireturn, 1) := by decide +kernel
theorem dX9_takesHead_68 : decode cX9_takesHead 68 = .ok (.aload_n 0, 1) := by decide +kernel
theorem dX9_takesHead_69 : decode cX9_takesHead 69 = .ok (.getfield 80, 3) := by decide +kernel
theorem dX9_takesHead_72 : decode cX9_takesHead 72 = .ok (.iload_n 1, 1) := by decide +kernel
theorem dX9_takesHead_73 : decode cX9_takesHead 73 = .ok (.iconst 2, 1) := by decide +kernel
theorem dX9_takesHead_74 : decode cX9_takesHead 74 = .ok (.iastore, 1) := by decide +kernel
theorem dX9_takesHead_75 : decode cX9_takesHead 75 = .ok (.aload_n 0, 1) := by decide +kernel
theorem dX9_takesHead_76 : decode cX9_takesHead 76 = .ok (.bipush 8, 2) := by decide +kernel
theorem dX9_takesHead_78 : decode cX9_takesHead 78 = .ok (.iconst 4, 1) := by decide +kernel
theorem dX9_takesHead_79 : decode cX9_takesHead 79 = .ok (.invokevirtual 350, 3) := by decide +kernel
theorem dX9_takesHead_82 : decode cX9_takesHead 82 = .ok (.ireturn, 1) := by decide +kernel
theorem dX9_takesHead_83 : decode cX9_takesHead 83 = .ok (.aload_n 0, 1) := by decide +kernel
theorem dX9_takesHead_84 : decode cX9_takesHead 84 = .ok (.getfield 80, 3) := by decide +kernel
theorem dX9_takesHead_87 : decode cX9_takesHead 87 = .ok (.iload_n 1, 1) := by decide +kernel
theorem dX9_takesHead_88 : decode cX9_takesHead 88 = .ok (.iconst 3, 1) := by decide +kernel
theorem dX9_takesHead_89 : decode cX9_takesHead 89 = .ok (.iastore, 1) := by decide +kernel
theorem dX9_takesHead_90 : decode cX9_takesHead 90 = .ok (.aload_n 0, 1) := by decide +kernel
theorem dX9_takesHead_91 : decode cX9_takesHead 91 = .ok (.bipush 12, 2) := by decide +kernel
theorem dX9_takesHead_93 : decode cX9_takesHead 93 = .ok (.iconst 4, 1) := by decide +kernel
theorem dX9_takesHead_94 : decode cX9_takesHead 94 = .ok (.invokevirtual 350, 3) := by decide +kernel
theorem dX9_takesHead_97 : decode cX9_takesHead 97 = .ok (.ireturn, 1) := by decide +kernel
theorem dX9_takesClause_0 : decode cX9_takesClause 0 = .ok (.aload_n 0, 1) := by decide +kernel
theorem dX9_takesClause_1 : decode cX9_takesClause 1 = .ok (.iload_n 1, 1) := by decide +kernel
theorem dX9_takesClause_2 : decode cX9_takesClause 2 = .ok (.invokevirtual 353, 3) := by decide +kernel
theorem dX9_takesClause_5 : decode cX9_takesClause 5 = .ok (.ifCond .eq 10, 3) := by decide +kernel
theorem dX9_takesClause_8 : decode cX9_takesClause 8 = .ok (.aload_n 0, 1) := by decide +kernel
theorem dX9_takesClause_9 : decode cX9_takesClause 9 = .ok (.invokevirtual 338, 3) := by decide +kernel
theorem dX9_takesClause_12 : decode cX9_takesClause 12 = .ok (.ifCond .ne 5, 3) := by decide +kernel
theorem dX9_takesClause_15 : decode cX9_takesClause 15 = .ok (.iconst 0, 1) := by decide +kernel
theorem dX9_takesClause_16 : decode cX9_takesClause 16 = .ok (.ireturn, 1) := by decide +kernel
theorem dX9_takesClause_17 : decode cX9_takesClause 17 = .ok (.aload_n 0, 1) := by decide +kernel
theorem dX9_takesClause_18 : decode cX9_takesClause 18 = .ok (.getfield 83, 3) := by decide +kernel
theorem dX9_takesClause_21 : decode cX9_takesClause 21 = .ok (.iload_n 1, 1) := by decide +kernel
theorem dX9_takesClause_22 : decode cX9_takesClause 22 = .ok (.aload_n 0, 1) := by decide +kernel
theorem dX9_takesClause_23 : decode cX9_takesClause 23 = .ok (.getfield 71, 3) := by decide +kernel
theorem dX9_takesClause_26 : decode cX9_takesClause 26 = .ok (.iastore, 1) := by decide +kernel
theorem dX9_takesClause_27 : decode cX9_takesClause 27 = .ok (.aload_n 0, 1) := by decide +kernel
theorem dX9_takesClause_28 : decode cX9_takesClause 28 = .ok (.getfield 80, 3) := by decide +kernel
theorem dX9_takesClause_31 : decode cX9_takesClause 31 = .ok (.iload_n 1, 1) := by decide +kernel
theorem dX9_takesClause_32 : decode cX9_takesClause 32 = .ok (.iaload, 1) := by decide +kernel
theorem dX9_takesClause_33 : decode cX9_takesClause 33 = .ok (.iconst 2, 1) := by decide +kernel
theorem dX9_takesClause_34 : decode cX9_takesClause 34 = .ok (.if_icmp .ge 20, 3) := by decide +kernel
theorem dX9_takesClause_37 : decode cX9_takesClause 37 = .ok (.aload_n 0, 1) := by decide +kernel
theorem dX9_takesClause_38 : decode cX9_takesClause 38 = .ok (.bipush 32, 2) := by decide +kernel
theorem dX9_takesClause_40 : decode cX9_takesClause 40 = .ok (.invokevirtual 323, 3) := by decide +kernel
theorem dX9_takesClause_43 : decode cX9_takesClause 43 = .ok (.ifCond .eq 15, 3) := by decide +kernel
theorem dX9_takesClause_46 : decode cX9_takesClause 46 = .ok (.aload_n 0, 1) := by decide +kernel
theorem dX9_takesClause_47 : decode cX9_takesClause 47 = .ok (.iload_n 1, 1) := by decide +kernel
theorem dX9_takesClause_48 : decode cX9_takesClause 48 = .ok (.invokevirtual 356, 3) := by decide +kernel
theorem dX9_takesClause_51 : decode cX9_takesClause 51 = .ok (.ifCond .eq 7, 3) := by decide +kernel
theorem dX9_takesClause_54 : decode cX9_takesClause 54 = .ok (.iconst 1, 1) := by decide +kernel
theorem dX9_takesClause_55 : decode cX9_takesClause 55 = .ok (.goto 4, 3) := by decide +kernel
theorem dX9_takesClause_58 : decode cX9_takesClause 58 = .ok (.iconst 0, 1) := by decide +kernel
theorem dX9_takesClause_59 : decode cX9_takesClause 59 = .ok (.ireturn, 1) := by decide +kernel
theorem dX9_goesText_0 : decode cX9_goesText 0 = .ok (.aload_n 0, 1) := by decide +kernel
theorem dX9_goesText_1 : decode cX9_goesText 1 = .ok (.iconst 0, 1) := by decide +kernel
theorem dX9_goesText_2 : decode cX9_goesText 2 = .ok (.putfield 68, 3) := by decide +kernel
theorem dX9_goesText_5 : decode cX9_goesText 5 = .ok (.aload_n 0, 1) := by decide +kernel
theorem dX9_goesText_6 : decode cX9_goesText 6 = .ok (.bipush 100, 2) := by decide +kernel
theorem dX9_goesText_8 : decode cX9_goesText 8 = .ok (.iload_n 1, 1) := by decide +kernel
theorem dX9_goesText_9 : decode cX9_goesText 9 = .ok (.imul, 1) := by decide +kernel
theorem dX9_goesText_10 : decode cX9_goesText 10 = .ok (.putfield 98, 3) := by decide +kernel
theorem dX9_goesText_13 : decode cX9_goesText 13 = .ok (.iconst 0, 1) := by decide +kernel
theorem dX9_goesText_14 : decode cX9_goesText 14 = .ok (.istore_n 2, 1) := by decide +kernel
theorem dX9_goesText_15 : decode cX9_goesText 15 = .ok (.aload_n 0, 1) := by decide +kernel
theorem dX9_goesText_16 : decode cX9_goesText 16 = .ok (.bipush 10, 2) := by decide +kernel
theorem dX9_goesText_18 : decode cX9_goesText 18 = .ok (.iload_n 1, 1) := by decide +kernel
theorem dX9_goesText_19 : decode cX9_goesText 19 = .ok (.imul, 1) := by decide +kernel
theorem dX9_goesText_20 : decode cX9_goesText 20 = .ok (.iload_n 2, 1) := by decide +kernel
theorem dX9_goesText_21 : decode cX9_goesText 21 = .ok (.iadd, 1) := by decide +kernel
theorem dX9_goesText_22 : decode cX9_goesText 22 = .ok (.invokevirtual 359, 3) := by decide +kernel
theorem dX9_goesText_25 : decode cX9_goesText 25 = .ok (.ifCond .ne 5, 3) := by decide +kernel
theorem dX9_goesText_28 : decode cX9_goesText 28 = .ok (.iconst 0, 1) := by decide +kernel
theorem dX9_goesText_29 : decode cX9_goesText 29 = .ok (.ireturn, 1) := by decide +kernel
theorem dX9_goesText_30 : decode cX9_goesText 30 = .ok (.iinc 2 1, 3) := by decide +kernel
theorem dX9_goesText_33 : decode cX9_goesText 33 = .ok (.aload_n 0, 1) := by decide +kernel
theorem dX9_goesText_34 : decode cX9_goesText 34 = .ok (.getfield 77, 3) := by decide +kernel
theorem dX9_goesText_37 : decode cX9_goesText 37 = .ok (.iload_n 1, 1) := by decide +kernel
theorem dX9_goesText_38 : decode cX9_goesText 38 = .ok (.iload_n 2, 1) := by decide +kernel
theorem dX9_goesText_39 : decode cX9_goesText 39 = .ok (.iastore, 1) := by decide +kernel
theorem dX9_goesText_40 : decode cX9_goesText 40 = .ok (.aload_n 0, 1) := by decide +kernel
theorem dX9_goesText_41 : decode cX9_goesText 41 = .ok (.getfield 68, 3) := by decide +kernel
theorem dX9_goesText_44 : decode cX9_goesText 44 = .ok (.aload_n 0, 1) := by decide +kernel
theorem dX9_goesText_45 : decode cX9_goesText 45 = .ok (.getfield 65, 3) := by decide +kernel
theorem dX9_goesText_48 : decode cX9_goesText 48 = .ok (.if_icmp .ne 5, 3) := by decide +kernel
theorem dX9_goesText_51 : decode cX9_goesText 51 = .ok (.iconst 1, 1) := by decide +kernel
theorem dX9_goesText_52 : decode cX9_goesText 52 = .ok (.ireturn, 1) := by decide +kernel
theorem dX9_goesText_53 : decode cX9_goesText 53 = .ok (.iload_n 2, 1) := by decide +kernel
theorem dX9_goesText_54 : decode cX9_goesText 54 = .ok (.bipush 10, 2) := by decide +kernel
theorem dX9_goesText_56 : decode cX9_goesText 56 = .ok (.if_icmp .eq 12, 3) := by decide +kernel
theorem dX9_goesText_59 : decode cX9_goesText 59 = .ok (.aload_n 0, 1) := by decide +kernel
theorem dX9_goesText_60 : decode cX9_goesText 60 = .ok (.bipush 59, 2) := by decide +kernel
theorem dX9_goesText_62 : decode cX9_goesText 62 = .ok (.invokevirtual 323, 3) := by decide +kernel
theorem dX9_goesText_65 : decode cX9_goesText 65 = .ok (.ifCond .ne (-50), 3) := by decide +kernel
theorem dX9_goesText_68 : decode cX9_goesText 68 = .ok (.iconst 0, 1) := by decide +kernel
theorem dX9_goesText_69 : decode cX9_goesText 69 = .ok (.ireturn, 1) := by decide +kernel
theorem dX9_dusk_0 : decode cX9_dusk 0 = .ok (.aload_n 0, 1) := by decide +kernel
theorem dX9_dusk_1 : decode cX9_dusk 1 = .ok (.getfield 59, 3) := by decide +kernel
theorem dX9_dusk_4 : decode cX9_dusk 4 = .ok (.bipush 6, 2) := by decide +kernel
theorem dX9_dusk_6 : decode cX9_dusk 6 = .ok (.if_icmp .ne 6, 3) := by decide +kernel
theorem dX9_dusk_9 : decode cX9_dusk 9 = .ok (.bipush (-4), 2) := by decide +kernel
theorem dX9_dusk_11 : decode cX9_dusk 11 = .ok (.ireturn, 1) := by decide +kernel
theorem dX9_dusk_12 : decode cX9_dusk 12 = .ok (.aload_n 0, 1) := by decide +kernel
theorem dX9_dusk_13 : decode cX9_dusk 13 = .ok (.aload_n 0, 1) := by decide +kernel
theorem dX9_dusk_14 : decode cX9_dusk 14 = .ok (.getfield 59, 3) := by decide +kernel
theorem dX9_dusk_17 : decode cX9_dusk 17 = .ok (.invokevirtual 362, 3) := by decide +kernel
theorem dX9_dusk_20 : decode cX9_dusk 20 = .ok (.istore_n 1, 1) := by decide +kernel
theorem dX9_dusk_21 : decode cX9_dusk 21 = .ok (.aload_n 0, 1) := by decide +kernel
theorem dX9_dusk_22 : decode cX9_dusk 22 = .ok (.iconst 0, 1) := by decide +kernel
theorem dX9_dusk_23 : decode cX9_dusk 23 = .ok (.putfield 65, 3) := by decide +kernel
theorem dX9_dusk_26 : decode cX9_dusk 26 = .ok (.iload_n 1, 1) := by decide +kernel
theorem dX9_dusk_27 : decode cX9_dusk 27 = .ok (.ifCond .ne 11, 3) := by decide +kernel
theorem dX9_dusk_30 : decode cX9_dusk 30 = .ok (.bipush (-10), 2) := by decide +kernel
theorem dX9_dusk_32 : decode cX9_dusk 32 = .ok (.aload_n 0, 1) := by decide +kernel
theorem dX9_dusk_33 : decode cX9_dusk 33 = .ok (.getfield 68, 3) := by decide +kernel
theorem dX9_dusk_36 : decode cX9_dusk 36 = .ok (.isub, 1) := by decide +kernel
theorem dX9_dusk_37 : decode cX9_dusk 37 = .ok (.ireturn, 1) := by decide +kernel
theorem dX9_dusk_38 : decode cX9_dusk 38 = .ok (.aload_n 0, 1) := by decide +kernel
theorem dX9_dusk_39 : decode cX9_dusk 39 = .ok (.aload_n 0, 1) := by decide +kernel
theorem dX9_dusk_40 : decode cX9_dusk 40 = .ok (.getfield 59, 3) := by decide +kernel
theorem dX9_dusk_43 : decode cX9_dusk 43 = .ok (.putfield 62, 3) := by decide +kernel
theorem dX9_dusk_46 : decode cX9_dusk 46 = .ok (.aload_n 0, 1) := by decide +kernel
theorem dX9_dusk_47 : decode cX9_dusk 47 = .ok (.dup, 1) := by decide +kernel
theorem dX9_dusk_48 : decode cX9_dusk 48 = .ok (.getfield 59, 3) := by decide +kernel
theorem dX9_dusk_51 : decode cX9_dusk 51 = .ok (.iconst 1, 1) := by decide +kernel
theorem dX9_dusk_52 : decode cX9_dusk 52 = .ok (.iadd, 1) := by decide +kernel
theorem dX9_dusk_53 : decode cX9_dusk 53 = .ok (.putfield 59, 3) := by decide +kernel
theorem dX9_dusk_56 : decode cX9_dusk 56 = .ok (.aload_n 0, 1) := by decide +kernel
theorem dX9_dusk_57 : decode cX9_dusk 57 = .ok (.getfield 62, 3) := by decide +kernel
theorem dX9_dusk_60 : decode cX9_dusk 60 = .ok (.ireturn, 1) := by decide +kernel
theorem dX9_begin_0 : decode cX9_begin 0 = .ok (.aload_n 0, 1) := by decide +kernel
theorem dX9_begin_1 : decode cX9_begin 1 = .ok (.getfield 62, 3) := by decide +kernel
theorem dX9_begin_4 : decode cX9_begin 4 = .ok (.ifCond .ge 7, 3) := by decide +kernel
theorem dX9_begin_7 : decode cX9_begin 7 = .ok (.iconst 0, 1) := by decide +kernel
theorem dX9_begin_8 : decode cX9_begin 8 = .ok (.goto 10, 3) := by decide +kernel
theorem dX9_begin_11 : decode cX9_begin 11 = .ok (.bipush 10, 2) := by decide +kernel
theorem dX9_begin_13 : decode cX9_begin 13 = .ok (.aload_n 0, 1) := by decide +kernel
theorem dX9_begin_14 : decode cX9_begin 14 = .ok (.getfield 62, 3) := by decide +kernel
theorem dX9_begin_17 : decode cX9_begin 17 = .ok (.imul, 1) := by decide +kernel
theorem dX9_begin_18 : decode cX9_begin 18 = .ok (.ireturn, 1) := by decide +kernel
theorem dX9_behind_0 : decode cX9_behind 0 = .ok (.aload_n 0, 1) := by decide +kernel
theorem dX9_behind_1 : decode cX9_behind 1 = .ok (.getfield 62, 3) := by decide +kernel
theorem dX9_behind_4 : decode cX9_behind 4 = .ok (.ifCond .ge 7, 3) := by decide +kernel
theorem dX9_behind_7 : decode cX9_behind 7 = .ok (.iconst 0, 1) := by decide +kernel
theorem dX9_behind_8 : decode cX9_behind 8 = .ok (.goto 20, 3) := by decide +kernel
theorem dX9_behind_11 : decode cX9_behind 11 = .ok (.bipush 10, 2) := by decide +kernel
theorem dX9_behind_13 : decode cX9_behind 13 = .ok (.aload_n 0, 1) := by decide +kernel
theorem dX9_behind_14 : decode cX9_behind 14 = .ok (.getfield 62, 3) := by decide +kernel
theorem dX9_behind_17 : decode cX9_behind 17 = .ok (.imul, 1) := by decide +kernel
theorem dX9_behind_18 : decode cX9_behind 18 = .ok (.aload_n 0, 1) := by decide +kernel
theorem dX9_behind_19 : decode cX9_behind 19 = .ok (.getfield 77, 3) := by decide +kernel
theorem dX9_behind_22 : decode cX9_behind 22 = .ok (.aload_n 0, 1) := by decide +kernel
theorem dX9_behind_23 : decode cX9_behind 23 = .ok (.getfield 62, 3) := by decide +kernel
theorem dX9_behind_26 : decode cX9_behind 26 = .ok (.iaload, 1) := by decide +kernel
theorem dX9_behind_27 : decode cX9_behind 27 = .ok (.iadd, 1) := by decide +kernel
theorem dX9_behind_28 : decode cX9_behind 28 = .ok (.ireturn, 1) := by decide +kernel
theorem dX9_lastOf_0 : decode cX9_lastOf 0 = .ok (.iload_n 2, 1) := by decide +kernel
theorem dX9_lastOf_1 : decode cX9_lastOf 1 = .ok (.istore_n 3, 1) := by decide +kernel
theorem dX9_lastOf_2 : decode cX9_lastOf 2 = .ok (.aload_n 0, 1) := by decide +kernel
theorem dX9_lastOf_3 : decode cX9_lastOf 3 = .ok (.invokevirtual 365, 3) := by decide +kernel
theorem dX9_lastOf_6 : decode cX9_lastOf 6 = .ok (.istore 4, 2) := by decide +kernel
theorem dX9_lastOf_8 : decode cX9_lastOf 8 = .ok (.iload 4, 2) := by decide +kernel
theorem dX9_lastOf_10 : decode cX9_lastOf 10 = .ok (.aload_n 0, 1) := by decide +kernel
theorem dX9_lastOf_11 : decode cX9_lastOf 11 = .ok (.invokevirtual 368, 3) := by decide +kernel
theorem dX9_lastOf_14 : decode cX9_lastOf 14 = .ok (.if_icmp .ge 32, 3) := by decide +kernel
theorem dX9_lastOf_17 : decode cX9_lastOf 17 = .ok (.aload_n 0, 1) := by decide +kernel
theorem dX9_lastOf_18 : decode cX9_lastOf 18 = .ok (.getfield 80, 3) := by decide +kernel
theorem dX9_lastOf_21 : decode cX9_lastOf 21 = .ok (.iload 4, 2) := by decide +kernel
theorem dX9_lastOf_23 : decode cX9_lastOf 23 = .ok (.iaload, 1) := by decide +kernel
theorem dX9_lastOf_24 : decode cX9_lastOf 24 = .ok (.iload_n 1, 1) := by decide +kernel
theorem dX9_lastOf_25 : decode cX9_lastOf 25 = .ok (.if_icmp .ne 13, 3) := by decide +kernel
theorem dX9_lastOf_28 : decode cX9_lastOf 28 = .ok (.aload_n 0, 1) := by decide +kernel
theorem dX9_lastOf_29 : decode cX9_lastOf 29 = .ok (.getfield 83, 3) := by decide +kernel
theorem dX9_lastOf_32 : decode cX9_lastOf 32 = .ok (.iload 4, 2) := by decide +kernel
theorem dX9_lastOf_34 : decode cX9_lastOf 34 = .ok (.iaload, 1) := by decide +kernel
theorem dX9_lastOf_35 : decode cX9_lastOf 35 = .ok (.goto 4, 3) := by decide +kernel
theorem dX9_lastOf_38 : decode cX9_lastOf 38 = .ok (.iload_n 3, 1) := by decide +kernel
theorem dX9_lastOf_39 : decode cX9_lastOf 39 = .ok (.istore_n 3, 1) := by decide +kernel
theorem dX9_lastOf_40 : decode cX9_lastOf 40 = .ok (.iinc 4 1, 3) := by decide +kernel
theorem dX9_lastOf_43 : decode cX9_lastOf 43 = .ok (.goto (-35), 3) := by decide +kernel
theorem dX9_lastOf_46 : decode cX9_lastOf 46 = .ok (.iload_n 3, 1) := by decide +kernel
theorem dX9_lastOf_47 : decode cX9_lastOf 47 = .ok (.ireturn, 1) := by decide +kernel
theorem dX9_pace_0 : decode cX9_pace 0 = .ok (.aload_n 0, 1) := by decide +kernel
theorem dX9_pace_1 : decode cX9_pace 1 = .ok (.getfield 110, 3) := by decide +kernel
theorem dX9_pace_4 : decode cX9_pace 4 = .ok (.ifCond .lt 10, 3) := by decide +kernel
theorem dX9_pace_7 : decode cX9_pace 7 = .ok (.aload_n 0, 1) := by decide +kernel
theorem dX9_pace_8 : decode cX9_pace 8 = .ok (.getfield 110, 3) := by decide +kernel
theorem dX9_pace_11 : decode cX9_pace 11 = .ok (.goto 9, 3) := by decide +kernel
theorem dX9_pace_14 : decode cX9_pace 14 = .ok (.aload_n 0, 1) := by decide +kernel
theorem dX9_pace_15 : decode cX9_pace 15 = .ok (.iconst 3, 1) := by decide +kernel
theorem dX9_pace_16 : decode cX9_pace 16 = .ok (.iconst 3, 1) := by decide +kernel
theorem dX9_pace_17 : decode cX9_pace 17 = .ok (.invokevirtual 371, 3) := by decide +kernel
theorem dX9_pace_20 : decode cX9_pace 20 = .ok (.istore_n 1, 1) := by decide +kernel
theorem dX9_pace_21 : decode cX9_pace 21 = .ok (.iload_n 1, 1) := by decide +kernel
theorem dX9_pace_22 : decode cX9_pace 22 = .ok (.iconst 1, 1) := by decide +kernel
theorem dX9_pace_23 : decode cX9_pace 23 = .ok (.if_icmp .ge 7, 3) := by decide +kernel
theorem dX9_pace_26 : decode cX9_pace 26 = .ok (.iconst 1, 1) := by decide +kernel
theorem dX9_pace_27 : decode cX9_pace 27 = .ok (.goto 15, 3) := by decide +kernel
theorem dX9_pace_30 : decode cX9_pace 30 = .ok (.iload_n 1, 1) := by decide +kernel
theorem dX9_pace_31 : decode cX9_pace 31 = .ok (.bipush 9, 2) := by decide +kernel
theorem dX9_pace_33 : decode cX9_pace 33 = .ok (.if_icmp .le 8, 3) := by decide +kernel
theorem dX9_pace_36 : decode cX9_pace 36 = .ok (.bipush 9, 2) := by decide +kernel
theorem dX9_pace_38 : decode cX9_pace 38 = .ok (.goto 4, 3) := by decide +kernel
theorem dX9_pace_41 : decode cX9_pace 41 = .ok (.iload_n 1, 1) := by decide +kernel
theorem dX9_pace_42 : decode cX9_pace 42 = .ok (.ireturn, 1) := by decide +kernel
theorem dX9_factOf_0 : decode cX9_factOf 0 = .ok (.iload_n 1, 1) := by decide +kernel
theorem dX9_factOf_1 : decode cX9_factOf 1 = .ok (.tableswitch 69 0 4 #[35, 37, 44, 51, 58], 35) := by decide +kernel
theorem dX9_factOf_36 : decode cX9_factOf 36 = .ok (.iload_n 2, 1) := by decide +kernel
theorem dX9_factOf_37 : decode cX9_factOf 37 = .ok (.ireturn, 1) := by decide +kernel
theorem dX9_factOf_38 : decode cX9_factOf 38 = .ok (.aload_n 0, 1) := by decide +kernel
theorem dX9_factOf_39 : decode cX9_factOf 39 = .ok (.getfield 41, 3) := by decide +kernel
theorem dX9_factOf_42 : decode cX9_factOf 42 = .ok (.iload_n 2, 1) := by decide +kernel
theorem dX9_factOf_43 : decode cX9_factOf 43 = .ok (.iaload, 1) := by decide +kernel
theorem dX9_factOf_44 : decode cX9_factOf 44 = .ok (.ireturn, 1) := by decide +kernel
theorem dX9_factOf_45 : decode cX9_factOf 45 = .ok (.aload_n 0, 1) := by decide +kernel
theorem dX9_factOf_46 : decode cX9_factOf 46 = .ok (.getfield 44, 3) := by decide +kernel
theorem dX9_factOf_49 : decode cX9_factOf 49 = .ok (.iload_n 2, 1) := by decide +kernel
theorem dX9_factOf_50 : decode cX9_factOf 50 = .ok (.iaload, 1) := by decide +kernel
theorem dX9_factOf_51 : decode cX9_factOf 51 = .ok (.ireturn, 1) := by decide +kernel
theorem dX9_factOf_52 : decode cX9_factOf 52 = .ok (.aload_n 0, 1) := by decide +kernel
theorem dX9_factOf_53 : decode cX9_factOf 53 = .ok (.getfield 47, 3) := by decide +kernel
theorem dX9_factOf_56 : decode cX9_factOf 56 = .ok (.iload_n 2, 1) := by decide +kernel
theorem dX9_factOf_57 : decode cX9_factOf 57 = .ok (.iaload, 1) := by decide +kernel
theorem dX9_factOf_58 : decode cX9_factOf 58 = .ok (.ireturn, 1) := by decide +kernel
theorem dX9_factOf_59 : decode cX9_factOf 59 = .ok (.aload_n 0, 1) := by decide +kernel
theorem dX9_factOf_60 : decode cX9_factOf 60 = .ok (.aload_n 0, 1) := by decide +kernel
theorem dX9_factOf_61 : decode cX9_factOf 61 = .ok (.getfield 50, 3) := by decide +kernel
theorem dX9_factOf_64 : decode cX9_factOf 64 = .ok (.iload_n 2, 1) := by decide +kernel
theorem dX9_factOf_65 : decode cX9_factOf 65 = .ok (.iaload, 1) := by decide +kernel
theorem dX9_factOf_66 : decode cX9_factOf 66 = .ok (.invokevirtual 375, 3) := by decide +kernel
theorem dX9_factOf_69 : decode cX9_factOf 69 = .ok (.ireturn, 1) := by decide +kernel
theorem dX9_factOf_70 : decode cX9_factOf 70 = .ok (.aload_n 0, 1) := by decide +kernel
theorem dX9_factOf_71 : decode cX9_factOf 71 = .ok (.getfield 16, 3) := by decide +kernel
theorem dX9_factOf_74 : decode cX9_factOf 74 = .ok (.bipush 10, 2) := by decide +kernel
theorem dX9_factOf_76 : decode cX9_factOf 76 = .ok (.irem, 1) := by decide +kernel
theorem dX9_factOf_77 : decode cX9_factOf 77 = .ok (.ireturn, 1) := by decide +kernel
theorem dX9_holds_0 : decode cX9_holds 0 = .ok (.iconst 0, 1) := by decide +kernel
theorem dX9_holds_1 : decode cX9_holds 1 = .ok (.istore_n 3, 1) := by decide +kernel
theorem dX9_holds_2 : decode cX9_holds 2 = .ok (.aload_n 0, 1) := by decide +kernel
theorem dX9_holds_3 : decode cX9_holds 3 = .ok (.getfield 86, 3) := by decide +kernel
theorem dX9_holds_6 : decode cX9_holds 6 = .ok (.iload_n 1, 1) := by decide +kernel
theorem dX9_holds_7 : decode cX9_holds 7 = .ok (.iaload, 1) := by decide +kernel
theorem dX9_holds_8 : decode cX9_holds 8 = .ok (.istore 4, 2) := by decide +kernel
theorem dX9_holds_10 : decode cX9_holds 10 = .ok (.iload 4, 2) := by decide +kernel
theorem dX9_holds_12 : decode cX9_holds 12 = .ok (.aload_n 0, 1) := by decide +kernel
theorem dX9_holds_13 : decode cX9_holds 13 = .ok (.getfield 89, 3) := by decide +kernel
theorem dX9_holds_16 : decode cX9_holds 16 = .ok (.iload_n 1, 1) := by decide +kernel
theorem dX9_holds_17 : decode cX9_holds 17 = .ok (.iaload, 1) := by decide +kernel
theorem dX9_holds_18 : decode cX9_holds 18 = .ok (.if_icmp .ge 225, 3) := by decide +kernel
theorem dX9_holds_21 : decode cX9_holds 21 = .ok (.aload_n 0, 1) := by decide +kernel
theorem dX9_holds_22 : decode cX9_holds 22 = .ok (.getfield 92, 3) := by decide +kernel
theorem dX9_holds_25 : decode cX9_holds 25 = .ok (.iload 4, 2) := by decide +kernel
theorem dX9_holds_27 : decode cX9_holds 27 = .ok (.iaload, 1) := by decide +kernel
theorem dX9_holds_28 : decode cX9_holds 28 = .ok (.istore 5, 2) := by decide +kernel
theorem dX9_holds_30 : decode cX9_holds 30 = .ok (.iload 5, 2) := by decide +kernel
theorem dX9_holds_32 : decode cX9_holds 32 = .ok (.bipush (-33), 2) := by decide +kernel
theorem dX9_holds_34 : decode cX9_holds 34 = .ok (.if_icmp .ne 30, 3) := by decide +kernel
theorem dX9_holds_37 : decode cX9_holds 37 = .ok (.aload_n 0, 1) := by decide +kernel
theorem dX9_holds_38 : decode cX9_holds 38 = .ok (.getfield 119, 3) := by decide +kernel
theorem dX9_holds_41 : decode cX9_holds 41 = .ok (.iload_n 3, 1) := by decide +kernel
theorem dX9_holds_42 : decode cX9_holds 42 = .ok (.iconst 1, 1) := by decide +kernel
theorem dX9_holds_43 : decode cX9_holds 43 = .ok (.isub, 1) := by decide +kernel
theorem dX9_holds_44 : decode cX9_holds 44 = .ok (.aload_n 0, 1) := by decide +kernel
theorem dX9_holds_45 : decode cX9_holds 45 = .ok (.getfield 119, 3) := by decide +kernel
theorem dX9_holds_48 : decode cX9_holds 48 = .ok (.iload_n 3, 1) := by decide +kernel
theorem dX9_holds_49 : decode cX9_holds 49 = .ok (.iconst 1, 1) := by decide +kernel
theorem dX9_holds_50 : decode cX9_holds 50 = .ok (.isub, 1) := by decide +kernel
theorem dX9_holds_51 : decode cX9_holds 51 = .ok (.baload, 1) := by decide +kernel
theorem dX9_holds_52 : decode cX9_holds 52 = .ok (.ifCond .ne 7, 3) := by decide +kernel
theorem dX9_holds_55 : decode cX9_holds 55 = .ok (.iconst 1, 1) := by decide +kernel
theorem dX9_holds_56 : decode cX9_holds 56 = .ok (.goto 4, 3) := by decide +kernel
theorem dX9_holds_59 : decode cX9_holds 59 = .ok (.iconst 0, 1) := by decide +kernel
theorem dX9_holds_60 : decode cX9_holds 60 = .ok (.bastore, 1) := by decide +kernel
theorem dX9_holds_61 : decode cX9_holds 61 = .ok (.goto 176, 3) := by decide +kernel
theorem dX9_holds_64 : decode cX9_holds 64 = .ok (.iload 5, 2) := by decide +kernel
theorem dX9_holds_66 : decode cX9_holds 66 = .ok (.ifCond .ge 77, 3) := by decide +kernel
theorem dX9_holds_69 : decode cX9_holds 69 = .ok (.iinc 3 (-1), 3) := by decide +kernel
theorem dX9_holds_72 : decode cX9_holds 72 = .ok (.aload_n 0, 1) := by decide +kernel
theorem dX9_holds_73 : decode cX9_holds 73 = .ok (.getfield 119, 3) := by decide +kernel
theorem dX9_holds_76 : decode cX9_holds 76 = .ok (.iload_n 3, 1) := by decide +kernel
theorem dX9_holds_77 : decode cX9_holds 77 = .ok (.iconst 1, 1) := by decide +kernel
theorem dX9_holds_78 : decode cX9_holds 78 = .ok (.isub, 1) := by decide +kernel
theorem dX9_holds_79 : decode cX9_holds 79 = .ok (.iload 5, 2) := by decide +kernel
theorem dX9_holds_81 : decode cX9_holds 81 = .ok (.bipush (-38), 2) := by decide +kernel
theorem dX9_holds_83 : decode cX9_holds 83 = .ok (.if_icmp .ne 31, 3) := by decide +kernel
theorem dX9_holds_86 : decode cX9_holds 86 = .ok (.aload_n 0, 1) := by decide +kernel
theorem dX9_holds_87 : decode cX9_holds 87 = .ok (.getfield 119, 3) := by decide +kernel
theorem dX9_holds_90 : decode cX9_holds 90 = .ok (.iload_n 3, 1) := by decide +kernel
theorem dX9_holds_91 : decode cX9_holds 91 = .ok (.iconst 1, 1) := by decide +kernel
theorem dX9_holds_92 : decode cX9_holds 92 = .ok (.isub, 1) := by decide +kernel
theorem dX9_holds_93 : decode cX9_holds 93 = .ok (.baload, 1) := by decide +kernel
theorem dX9_holds_94 : decode cX9_holds 94 = .ok (.ifCond .eq 16, 3) := by decide +kernel
theorem dX9_holds_97 : decode cX9_holds 97 = .ok (.aload_n 0, 1) := by decide +kernel
theorem dX9_holds_98 : decode cX9_holds 98 = .ok (.getfield 119, 3) := by decide +kernel
theorem dX9_holds_101 : decode cX9_holds 101 = .ok (.iload_n 3, 1) := by decide +kernel
theorem dX9_holds_102 : decode cX9_holds 102 = .ok (.baload, 1) := by decide +kernel
theorem dX9_holds_103 : decode cX9_holds 103 = .ok (.ifCond .eq 7, 3) := by decide +kernel
theorem dX9_holds_106 : decode cX9_holds 106 = .ok (.iconst 1, 1) := by decide +kernel
theorem dX9_holds_107 : decode cX9_holds 107 = .ok (.goto 32, 3) := by decide +kernel
theorem dX9_holds_110 : decode cX9_holds 110 = .ok (.iconst 0, 1) := by decide +kernel
theorem dX9_holds_111 : decode cX9_holds 111 = .ok (.goto 28, 3) := by decide +kernel
theorem dX9_holds_114 : decode cX9_holds 114 = .ok (.aload_n 0, 1) := by decide +kernel
theorem dX9_holds_115 : decode cX9_holds 115 = .ok (.getfield 119, 3) := by decide +kernel
theorem dX9_holds_118 : decode cX9_holds 118 = .ok (.iload_n 3, 1) := by decide +kernel
theorem dX9_holds_119 : decode cX9_holds 119 = .ok (.iconst 1, 1) := by decide +kernel
theorem dX9_holds_120 : decode cX9_holds 120 = .ok (.isub, 1) := by decide +kernel
theorem dX9_holds_121 : decode cX9_holds 121 = .ok (.baload, 1) := by decide +kernel
theorem dX9_holds_122 : decode cX9_holds 122 = .ok (.ifCond .ne 12, 3) := by decide +kernel
theorem dX9_holds_125 : decode cX9_holds 125 = .ok (.aload_n 0, 1) := by decide +kernel
theorem dX9_holds_126 : decode cX9_holds 126 = .ok (.getfield 119, 3) := by decide +kernel
theorem dX9_holds_129 : decode cX9_holds 129 = .ok (.iload_n 3, 1) := by decide +kernel
theorem dX9_holds_130 : decode cX9_holds 130 = .ok (.baload, 1) := by decide +kernel
theorem dX9_holds_131 : decode cX9_holds 131 = .ok (.ifCond .eq 7, 3) := by decide +kernel
theorem dX9_holds_134 : decode cX9_holds 134 = .ok (.iconst 1, 1) := by decide +kernel
theorem dX9_holds_135 : decode cX9_holds 135 = .ok (.goto 4, 3) := by decide +kernel
theorem dX9_holds_138 : decode cX9_holds 138 = .ok (.iconst 0, 1) := by decide +kernel
theorem dX9_holds_139 : decode cX9_holds 139 = .ok (.bastore, 1) := by decide +kernel
theorem dX9_holds_140 : decode cX9_holds 140 = .ok (.goto 97, 3) := by decide +kernel
theorem dX9_holds_143 : decode cX9_holds 143 = .ok (.aload_n 0, 1) := by decide +kernel
theorem dX9_holds_144 : decode cX9_holds 144 = .ok (.iload 5, 2) := by decide +kernel
theorem dX9_holds_146 : decode cX9_holds 146 = .ok (.sipush 1000, 3) := by decide +kernel
theorem dX9_holds_149 : decode cX9_holds 149 = .ok (.idiv, 1) := by decide +kernel
theorem dX9_holds_150 : decode cX9_holds 150 = .ok (.iload_n 2, 1) := by decide +kernel
theorem dX9_holds_151 : decode cX9_holds 151 = .ok (.invokevirtual 378, 3) := by decide +kernel
theorem dX9_holds_154 : decode cX9_holds 154 = .ok (.istore 6, 2) := by decide +kernel
theorem dX9_holds_156 : decode cX9_holds 156 = .ok (.iload 5, 2) := by decide +kernel
theorem dX9_holds_158 : decode cX9_holds 158 = .ok (.bipush 100, 2) := by decide +kernel
theorem dX9_holds_160 : decode cX9_holds 160 = .ok (.idiv, 1) := by decide +kernel
theorem dX9_holds_161 : decode cX9_holds 161 = .ok (.bipush 10, 2) := by decide +kernel
theorem dX9_holds_163 : decode cX9_holds 163 = .ok (.irem, 1) := by decide +kernel
theorem dX9_holds_164 : decode cX9_holds 164 = .ok (.istore 7, 2) := by decide +kernel
theorem dX9_holds_166 : decode cX9_holds 166 = .ok (.aload_n 0, 1) := by decide +kernel
theorem dX9_holds_167 : decode cX9_holds 167 = .ok (.getfield 119, 3) := by decide +kernel
theorem dX9_holds_170 : decode cX9_holds 170 = .ok (.iload_n 3, 1) := by decide +kernel
theorem dX9_holds_171 : decode cX9_holds 171 = .ok (.iload 7, 2) := by decide +kernel
theorem dX9_holds_173 : decode cX9_holds 173 = .ok (.ifCond .ne 21, 3) := by decide +kernel
theorem dX9_holds_176 : decode cX9_holds 176 = .ok (.iload 6, 2) := by decide +kernel
theorem dX9_holds_178 : decode cX9_holds 178 = .ok (.iload 5, 2) := by decide +kernel
theorem dX9_holds_180 : decode cX9_holds 180 = .ok (.bipush 100, 2) := by decide +kernel
theorem dX9_holds_182 : decode cX9_holds 182 = .ok (.irem, 1) := by decide +kernel
theorem dX9_holds_183 : decode cX9_holds 183 = .ok (.if_icmp .ge 7, 3) := by decide +kernel
theorem dX9_holds_186 : decode cX9_holds 186 = .ok (.iconst 1, 1) := by decide +kernel
theorem dX9_holds_187 : decode cX9_holds 187 = .ok (.goto 46, 3) := by decide +kernel
theorem dX9_holds_190 : decode cX9_holds 190 = .ok (.iconst 0, 1) := by decide +kernel
theorem dX9_holds_191 : decode cX9_holds 191 = .ok (.goto 42, 3) := by decide +kernel
theorem dX9_holds_194 : decode cX9_holds 194 = .ok (.iload 7, 2) := by decide +kernel
theorem dX9_holds_196 : decode cX9_holds 196 = .ok (.iconst 1, 1) := by decide +kernel
theorem dX9_holds_197 : decode cX9_holds 197 = .ok (.if_icmp .ne 21, 3) := by decide +kernel
theorem dX9_holds_200 : decode cX9_holds 200 = .ok (.iload 6, 2) := by decide +kernel
theorem dX9_holds_202 : decode cX9_holds 202 = .ok (.iload 5, 2) := by decide +kernel
theorem dX9_holds_204 : decode cX9_holds 204 = .ok (.bipush 100, 2) := by decide +kernel
theorem dX9_holds_206 : decode cX9_holds 206 = .ok (.irem, 1) := by decide +kernel
theorem dX9_holds_207 : decode cX9_holds 207 = .ok (.if_icmp .ne 7, 3) := by decide +kernel
theorem dX9_holds_210 : decode cX9_holds 210 = .ok (.iconst 1, 1) := by decide +kernel
theorem dX9_holds_211 : decode cX9_holds 211 = .ok (.goto 22, 3) := by decide +kernel
theorem dX9_holds_214 : decode cX9_holds 214 = .ok (.iconst 0, 1) := by decide +kernel
theorem dX9_holds_215 : decode cX9_holds 215 = .ok (.goto 18, 3) := by decide +kernel
theorem dX9_holds_218 : decode cX9_holds 218 = .ok (.iload 6, 2) := by decide +kernel
theorem dX9_holds_220 : decode cX9_holds 220 = .ok (.iload 5, 2) := by decide +kernel
theorem dX9_holds_222 : decode cX9_holds 222 = .ok (.bipush 100, 2) := by decide +kernel
theorem dX9_holds_224 : decode cX9_holds 224 = .ok (.irem, 1) := by decide +kernel
theorem dX9_holds_225 : decode cX9_holds 225 = .ok (.if_icmp .le 7, 3) := by decide +kernel
theorem dX9_holds_228 : decode cX9_holds 228 = .ok (.iconst 1, 1) := by decide +kernel
theorem dX9_holds_229 : decode cX9_holds 229 = .ok (.goto 4, 3) := by decide +kernel
theorem dX9_holds_232 : decode cX9_holds 232 = .ok (.iconst 0, 1) := by decide +kernel
theorem dX9_holds_233 : decode cX9_holds 233 = .ok (.bastore, 1) := by decide +kernel
theorem dX9_holds_234 : decode cX9_holds 234 = .ok (.iinc 3 1, 3) := by decide +kernel
theorem dX9_holds_237 : decode cX9_holds 237 = .ok (.iinc 4 1, 3) := by decide +kernel
theorem dX9_holds_240 : decode cX9_holds 240 = .ok (.goto (-230), 3) := by decide +kernel
theorem dX9_holds_243 : decode cX9_holds 243 = .ok (.aload_n 0, 1) := by decide +kernel
theorem dX9_holds_244 : decode cX9_holds 244 = .ok (.getfield 119, 3) := by decide +kernel
theorem dX9_holds_247 : decode cX9_holds 247 = .ok (.iconst 0, 1) := by decide +kernel
theorem dX9_holds_248 : decode cX9_holds 248 = .ok (.baload, 1) := by decide +kernel
theorem dX9_holds_249 : decode cX9_holds 249 = .ok (.ireturn, 1) := by decide +kernel
theorem dX9_ears_0 : decode cX9_ears 0 = .ok (.iconst 0, 1) := by decide +kernel
theorem dX9_ears_1 : decode cX9_ears 1 = .ok (.istore_n 2, 1) := by decide +kernel
theorem dX9_ears_2 : decode cX9_ears 2 = .ok (.aload_n 0, 1) := by decide +kernel
theorem dX9_ears_3 : decode cX9_ears 3 = .ok (.invokevirtual 365, 3) := by decide +kernel
theorem dX9_ears_6 : decode cX9_ears 6 = .ok (.istore_n 3, 1) := by decide +kernel
theorem dX9_ears_7 : decode cX9_ears 7 = .ok (.iload_n 3, 1) := by decide +kernel
theorem dX9_ears_8 : decode cX9_ears 8 = .ok (.aload_n 0, 1) := by decide +kernel
theorem dX9_ears_9 : decode cX9_ears 9 = .ok (.invokevirtual 368, 3) := by decide +kernel
theorem dX9_ears_12 : decode cX9_ears 12 = .ok (.if_icmp .ge 59, 3) := by decide +kernel
theorem dX9_ears_15 : decode cX9_ears 15 = .ok (.aload_n 0, 1) := by decide +kernel
theorem dX9_ears_16 : decode cX9_ears 16 = .ok (.getfield 80, 3) := by decide +kernel
theorem dX9_ears_19 : decode cX9_ears 19 = .ok (.iload_n 3, 1) := by decide +kernel
theorem dX9_ears_20 : decode cX9_ears 20 = .ok (.iaload, 1) := by decide +kernel
theorem dX9_ears_21 : decode cX9_ears 21 = .ok (.iconst 1, 1) := by decide +kernel
theorem dX9_ears_22 : decode cX9_ears 22 = .ok (.if_icmp .gt 43, 3) := by decide +kernel
theorem dX9_ears_25 : decode cX9_ears 25 = .ok (.aload_n 0, 1) := by decide +kernel
theorem dX9_ears_26 : decode cX9_ears 26 = .ok (.iload_n 3, 1) := by decide +kernel
theorem dX9_ears_27 : decode cX9_ears 27 = .ok (.iload_n 1, 1) := by decide +kernel
theorem dX9_ears_28 : decode cX9_ears 28 = .ok (.invokevirtual 381, 3) := by decide +kernel
theorem dX9_ears_31 : decode cX9_ears 31 = .ok (.ifCond .ne 6, 3) := by decide +kernel
theorem dX9_ears_34 : decode cX9_ears 34 = .ok (.goto 31, 3) := by decide +kernel
theorem dX9_ears_37 : decode cX9_ears 37 = .ok (.iload_n 2, 1) := by decide +kernel
theorem dX9_ears_38 : decode cX9_ears 38 = .ok (.aload_n 0, 1) := by decide +kernel
theorem dX9_ears_39 : decode cX9_ears 39 = .ok (.getfield 80, 3) := by decide +kernel
theorem dX9_ears_42 : decode cX9_ears 42 = .ok (.iload_n 3, 1) := by decide +kernel
theorem dX9_ears_43 : decode cX9_ears 43 = .ok (.iaload, 1) := by decide +kernel
theorem dX9_ears_44 : decode cX9_ears 44 = .ok (.ifCond .ne 12, 3) := by decide +kernel
theorem dX9_ears_47 : decode cX9_ears 47 = .ok (.aload_n 0, 1) := by decide +kernel
theorem dX9_ears_48 : decode cX9_ears 48 = .ok (.getfield 83, 3) := by decide +kernel
theorem dX9_ears_51 : decode cX9_ears 51 = .ok (.iload_n 3, 1) := by decide +kernel
theorem dX9_ears_52 : decode cX9_ears 52 = .ok (.iaload, 1) := by decide +kernel
theorem dX9_ears_53 : decode cX9_ears 53 = .ok (.goto 10, 3) := by decide +kernel
theorem dX9_ears_56 : decode cX9_ears 56 = .ok (.aload_n 0, 1) := by decide +kernel
theorem dX9_ears_57 : decode cX9_ears 57 = .ok (.getfield 83, 3) := by decide +kernel
theorem dX9_ears_60 : decode cX9_ears 60 = .ok (.iload_n 3, 1) := by decide +kernel
theorem dX9_ears_61 : decode cX9_ears 61 = .ok (.iaload, 1) := by decide +kernel
theorem dX9_ears_62 : decode cX9_ears 62 = .ok (.ineg, 1) := by decide +kernel
theorem dX9_ears_63 : decode cX9_ears 63 = .ok (.iadd, 1) := by decide +kernel
theorem dX9_ears_64 : decode cX9_ears 64 = .ok (.istore_n 2, 1) := by decide +kernel
theorem dX9_ears_65 : decode cX9_ears 65 = .ok (.iinc 3 1, 3) := by decide +kernel
theorem dX9_ears_68 : decode cX9_ears 68 = .ok (.goto (-61), 3) := by decide +kernel
theorem dX9_ears_71 : decode cX9_ears 71 = .ok (.iload_n 2, 1) := by decide +kernel
theorem dX9_ears_72 : decode cX9_ears 72 = .ok (.ireturn, 1) := by decide +kernel
theorem dX9_up_0 : decode cX9_up 0 = .ok (.iload_n 2, 1) := by decide +kernel
theorem dX9_up_1 : decode cX9_up 1 = .ok (.iload_n 1, 1) := by decide +kernel
theorem dX9_up_2 : decode cX9_up 2 = .ok (.if_icmp .ge 12, 3) := by decide +kernel
theorem dX9_up_5 : decode cX9_up 5 = .ok (.iload_n 2, 1) := by decide +kernel
theorem dX9_up_6 : decode cX9_up 6 = .ok (.iload_n 1, 1) := by decide +kernel
theorem dX9_up_7 : decode cX9_up 7 = .ok (.isub, 1) := by decide +kernel
theorem dX9_up_8 : decode cX9_up 8 = .ok (.bipush 30, 2) := by decide +kernel
theorem dX9_up_10 : decode cX9_up 10 = .ok (.iadd, 1) := by decide +kernel
theorem dX9_up_11 : decode cX9_up 11 = .ok (.goto 6, 3) := by decide +kernel
theorem dX9_up_14 : decode cX9_up 14 = .ok (.iload_n 2, 1) := by decide +kernel
theorem dX9_up_15 : decode cX9_up 15 = .ok (.iload_n 1, 1) := by decide +kernel
theorem dX9_up_16 : decode cX9_up 16 = .ok (.isub, 1) := by decide +kernel
theorem dX9_up_17 : decode cX9_up 17 = .ok (.ireturn, 1) := by decide +kernel
theorem dX9_way_0 : decode cX9_way 0 = .ok (.aload_n 0, 1) := by decide +kernel
theorem dX9_way_1 : decode cX9_way 1 = .ok (.iload_n 1, 1) := by decide +kernel
theorem dX9_way_2 : decode cX9_way 2 = .ok (.iload_n 2, 1) := by decide +kernel
theorem dX9_way_3 : decode cX9_way 3 = .ok (.invokevirtual 384, 3) := by decide +kernel
theorem dX9_way_6 : decode cX9_way 6 = .ok (.istore_n 3, 1) := by decide +kernel
theorem dX9_way_7 : decode cX9_way 7 = .ok (.iload_n 3, 1) := by decide +kernel
theorem dX9_way_8 : decode cX9_way 8 = .ok (.bipush 15, 2) := by decide +kernel
theorem dX9_way_10 : decode cX9_way 10 = .ok (.if_icmp .le 10, 3) := by decide +kernel
theorem dX9_way_13 : decode cX9_way 13 = .ok (.bipush 30, 2) := by decide +kernel
theorem dX9_way_15 : decode cX9_way 15 = .ok (.iload_n 3, 1) := by decide +kernel
theorem dX9_way_16 : decode cX9_way 16 = .ok (.isub, 1) := by decide +kernel
theorem dX9_way_17 : decode cX9_way 17 = .ok (.goto 4, 3) := by decide +kernel
theorem dX9_way_20 : decode cX9_way 20 = .ok (.iload_n 3, 1) := by decide +kernel
theorem dX9_way_21 : decode cX9_way 21 = .ok (.ireturn, 1) := by decide +kernel
theorem dX9_toward_0 : decode cX9_toward 0 = .ok (.aload_n 0, 1) := by decide +kernel
theorem dX9_toward_1 : decode cX9_toward 1 = .ok (.iload_n 1, 1) := by decide +kernel
theorem dX9_toward_2 : decode cX9_toward 2 = .ok (.iload_n 2, 1) := by decide +kernel
theorem dX9_toward_3 : decode cX9_toward 3 = .ok (.invokevirtual 387, 3) := by decide +kernel
theorem dX9_toward_6 : decode cX9_toward 6 = .ok (.istore 4, 2) := by decide +kernel
theorem dX9_toward_8 : decode cX9_toward 8 = .ok (.iload_n 3, 1) := by decide +kernel
theorem dX9_toward_9 : decode cX9_toward 9 = .ok (.iload 4, 2) := by decide +kernel
theorem dX9_toward_11 : decode cX9_toward 11 = .ok (.if_icmp .ge 7, 3) := by decide +kernel
theorem dX9_toward_14 : decode cX9_toward 14 = .ok (.iload_n 3, 1) := by decide +kernel
theorem dX9_toward_15 : decode cX9_toward 15 = .ok (.goto 5, 3) := by decide +kernel
theorem dX9_toward_18 : decode cX9_toward 18 = .ok (.iload 4, 2) := by decide +kernel
theorem dX9_toward_20 : decode cX9_toward 20 = .ok (.istore 5, 2) := by decide +kernel
theorem dX9_toward_22 : decode cX9_toward 22 = .ok (.aload_n 0, 1) := by decide +kernel
theorem dX9_toward_23 : decode cX9_toward 23 = .ok (.iload_n 1, 1) := by decide +kernel
theorem dX9_toward_24 : decode cX9_toward 24 = .ok (.iload_n 2, 1) := by decide +kernel
theorem dX9_toward_25 : decode cX9_toward 25 = .ok (.invokevirtual 384, 3) := by decide +kernel
theorem dX9_toward_28 : decode cX9_toward 28 = .ok (.bipush 15, 2) := by decide +kernel
theorem dX9_toward_30 : decode cX9_toward 30 = .ok (.if_icmp .gt 13, 3) := by decide +kernel
theorem dX9_toward_33 : decode cX9_toward 33 = .ok (.iload_n 1, 1) := by decide +kernel
theorem dX9_toward_34 : decode cX9_toward 34 = .ok (.iload 5, 2) := by decide +kernel
theorem dX9_toward_36 : decode cX9_toward 36 = .ok (.iadd, 1) := by decide +kernel
theorem dX9_toward_37 : decode cX9_toward 37 = .ok (.bipush 30, 2) := by decide +kernel
theorem dX9_toward_39 : decode cX9_toward 39 = .ok (.irem, 1) := by decide +kernel
theorem dX9_toward_40 : decode cX9_toward 40 = .ok (.goto 13, 3) := by decide +kernel
theorem dX9_toward_43 : decode cX9_toward 43 = .ok (.iload_n 1, 1) := by decide +kernel
theorem dX9_toward_44 : decode cX9_toward 44 = .ok (.iload 5, 2) := by decide +kernel
theorem dX9_toward_46 : decode cX9_toward 46 = .ok (.isub, 1) := by decide +kernel
theorem dX9_toward_47 : decode cX9_toward 47 = .ok (.bipush 30, 2) := by decide +kernel
theorem dX9_toward_49 : decode cX9_toward 49 = .ok (.iadd, 1) := by decide +kernel
theorem dX9_toward_50 : decode cX9_toward 50 = .ok (.bipush 30, 2) := by decide +kernel
theorem dX9_toward_52 : decode cX9_toward 52 = .ok (.irem, 1) := by decide +kernel
theorem dX9_toward_53 : decode cX9_toward 53 = .ok (.ireturn, 1) := by decide +kernel
theorem dX9_hears_0 : decode cX9_hears 0 = .ok (.aload_n 0, 1) := by decide +kernel
theorem dX9_hears_1 : decode cX9_hears 1 = .ok (.aload_n 0, 1) := by decide +kernel
theorem dX9_hears_2 : decode cX9_hears 2 = .ok (.getfield 47, 3) := by decide +kernel
theorem dX9_hears_5 : decode cX9_hears 5 = .ok (.iload_n 1, 1) := by decide +kernel
theorem dX9_hears_6 : decode cX9_hears 6 = .ok (.iaload, 1) := by decide +kernel
theorem dX9_hears_7 : decode cX9_hears 7 = .ok (.aload_n 0, 1) := by decide +kernel
theorem dX9_hears_8 : decode cX9_hears 8 = .ok (.getfield 28, 3) := by decide +kernel
theorem dX9_hears_11 : decode cX9_hears 11 = .ok (.invokevirtual 387, 3) := by decide +kernel
theorem dX9_hears_14 : decode cX9_hears 14 = .ok (.aload_n 0, 1) := by decide +kernel
theorem dX9_hears_15 : decode cX9_hears 15 = .ok (.iconst 2, 1) := by decide +kernel
theorem dX9_hears_16 : decode cX9_hears 16 = .ok (.bipush 8, 2) := by decide +kernel
theorem dX9_hears_18 : decode cX9_hears 18 = .ok (.invokevirtual 371, 3) := by decide +kernel
theorem dX9_hears_21 : decode cX9_hears 21 = .ok (.aload_n 0, 1) := by decide +kernel
theorem dX9_hears_22 : decode cX9_hears 22 = .ok (.iload_n 1, 1) := by decide +kernel
theorem dX9_hears_23 : decode cX9_hears 23 = .ok (.invokevirtual 390, 3) := by decide +kernel
theorem dX9_hears_26 : decode cX9_hears 26 = .ok (.iadd, 1) := by decide +kernel
theorem dX9_hears_27 : decode cX9_hears 27 = .ok (.if_icmp .gt 7, 3) := by decide +kernel
theorem dX9_hears_30 : decode cX9_hears 30 = .ok (.iconst 1, 1) := by decide +kernel
theorem dX9_hears_31 : decode cX9_hears 31 = .ok (.goto 4, 3) := by decide +kernel
theorem dX9_hears_34 : decode cX9_hears 34 = .ok (.iconst 0, 1) := by decide +kernel
theorem dX9_hears_35 : decode cX9_hears 35 = .ok (.ireturn, 1) := by decide +kernel
theorem dX9_steps_0 : decode cX9_steps 0 = .ok (.aload_n 0, 1) := by decide +kernel
theorem dX9_steps_1 : decode cX9_steps 1 = .ok (.getfield 16, 3) := by decide +kernel
theorem dX9_steps_4 : decode cX9_steps 4 = .ok (.iconst 3, 1) := by decide +kernel
theorem dX9_steps_5 : decode cX9_steps 5 = .ok (.irem, 1) := by decide +kernel
theorem dX9_steps_6 : decode cX9_steps 6 = .ok (.ifCond .ne 7, 3) := by decide +kernel
theorem dX9_steps_9 : decode cX9_steps 9 = .ok (.iconst 0, 1) := by decide +kernel
theorem dX9_steps_10 : decode cX9_steps 10 = .ok (.goto 4, 3) := by decide +kernel
theorem dX9_steps_13 : decode cX9_steps 13 = .ok (.iconst 3, 1) := by decide +kernel
theorem dX9_steps_14 : decode cX9_steps 14 = .ok (.istore_n 2, 1) := by decide +kernel
theorem dX9_steps_15 : decode cX9_steps 15 = .ok (.aload_n 0, 1) := by decide +kernel
theorem dX9_steps_16 : decode cX9_steps 16 = .ok (.getfield 41, 3) := by decide +kernel
theorem dX9_steps_19 : decode cX9_steps 19 = .ok (.iload_n 1, 1) := by decide +kernel
theorem dX9_steps_20 : decode cX9_steps 20 = .ok (.iaload, 1) := by decide +kernel
theorem dX9_steps_21 : decode cX9_steps 21 = .ok (.tableswitch 81 1 6 #[39, 41, 81, 43, 59, 63], 39) := by decide +kernel
theorem dX9_steps_60 : decode cX9_steps 60 = .ok (.iconst 1, 1) := by decide +kernel
theorem dX9_steps_61 : decode cX9_steps 61 = .ok (.ireturn, 1) := by decide +kernel
theorem dX9_steps_62 : decode cX9_steps 62 = .ok (.iload_n 2, 1) := by decide +kernel
theorem dX9_steps_63 : decode cX9_steps 63 = .ok (.ireturn, 1) := by decide +kernel
theorem dX9_steps_64 : decode cX9_steps 64 = .ok (.aload_n 0, 1) := by decide +kernel
theorem dX9_steps_65 : decode cX9_steps 65 = .ok (.getfield 16, 3) := by decide +kernel
theorem dX9_steps_68 : decode cX9_steps 68 = .ok (.iconst 2, 1) := by decide +kernel
theorem dX9_steps_69 : decode cX9_steps 69 = .ok (.irem, 1) := by decide +kernel
theorem dX9_steps_70 : decode cX9_steps 70 = .ok (.iconst 1, 1) := by decide +kernel
theorem dX9_steps_71 : decode cX9_steps 71 = .ok (.if_icmp .ne 7, 3) := by decide +kernel
theorem dX9_steps_74 : decode cX9_steps 74 = .ok (.iconst 0, 1) := by decide +kernel
theorem dX9_steps_75 : decode cX9_steps 75 = .ok (.goto 4, 3) := by decide +kernel
theorem dX9_steps_78 : decode cX9_steps 78 = .ok (.iconst 1, 1) := by decide +kernel
theorem dX9_steps_79 : decode cX9_steps 79 = .ok (.ireturn, 1) := by decide +kernel
theorem dX9_steps_80 : decode cX9_steps 80 = .ok (.iload_n 2, 1) := by decide +kernel
theorem dX9_steps_81 : decode cX9_steps 81 = .ok (.iconst 1, 1) := by decide +kernel
theorem dX9_steps_82 : decode cX9_steps 82 = .ok (.iadd, 1) := by decide +kernel
theorem dX9_steps_83 : decode cX9_steps 83 = .ok (.ireturn, 1) := by decide +kernel
theorem dX9_steps_84 : decode cX9_steps 84 = .ok (.iconst 2, 1) := by decide +kernel
theorem dX9_steps_85 : decode cX9_steps 85 = .ok (.aload_n 0, 1) := by decide +kernel
theorem dX9_steps_86 : decode cX9_steps 86 = .ok (.getfield 53, 3) := by decide +kernel
theorem dX9_steps_89 : decode cX9_steps 89 = .ok (.iconst 4, 1) := by decide +kernel
theorem dX9_steps_90 : decode cX9_steps 90 = .ok (.iload_n 1, 1) := by decide +kernel
theorem dX9_steps_91 : decode cX9_steps 91 = .ok (.imul, 1) := by decide +kernel
theorem dX9_steps_92 : decode cX9_steps 92 = .ok (.aload_n 0, 1) := by decide +kernel
theorem dX9_steps_93 : decode cX9_steps 93 = .ok (.getfield 16, 3) := by decide +kernel
theorem dX9_steps_96 : decode cX9_steps 96 = .ok (.iconst 4, 1) := by decide +kernel
theorem dX9_steps_97 : decode cX9_steps 97 = .ok (.irem, 1) := by decide +kernel
theorem dX9_steps_98 : decode cX9_steps 98 = .ok (.iadd, 1) := by decide +kernel
theorem dX9_steps_99 : decode cX9_steps 99 = .ok (.iaload, 1) := by decide +kernel
theorem dX9_steps_100 : decode cX9_steps 100 = .ok (.iadd, 1) := by decide +kernel
theorem dX9_steps_101 : decode cX9_steps 101 = .ok (.ireturn, 1) := by decide +kernel
theorem dX9_steps_102 : decode cX9_steps 102 = .ok (.iconst 2, 1) := by decide +kernel
theorem dX9_steps_103 : decode cX9_steps 103 = .ok (.ireturn, 1) := by decide +kernel
theorem dX9_goal_0 : decode cX9_goal 0 = .ok (.aload_n 0, 1) := by decide +kernel
theorem dX9_goal_1 : decode cX9_goal 1 = .ok (.getfield 41, 3) := by decide +kernel
theorem dX9_goal_4 : decode cX9_goal 4 = .ok (.iload_n 1, 1) := by decide +kernel
theorem dX9_goal_5 : decode cX9_goal 5 = .ok (.iaload, 1) := by decide +kernel
theorem dX9_goal_6 : decode cX9_goal 6 = .ok (.iconst 3, 1) := by decide +kernel
theorem dX9_goal_7 : decode cX9_goal 7 = .ok (.if_icmp .eq 14, 3) := by decide +kernel
theorem dX9_goal_10 : decode cX9_goal 10 = .ok (.aload_n 0, 1) := by decide +kernel
theorem dX9_goal_11 : decode cX9_goal 11 = .ok (.getfield 41, 3) := by decide +kernel
theorem dX9_goal_14 : decode cX9_goal 14 = .ok (.iload_n 1, 1) := by decide +kernel
theorem dX9_goal_15 : decode cX9_goal 15 = .ok (.iaload, 1) := by decide +kernel
theorem dX9_goal_16 : decode cX9_goal 16 = .ok (.bipush 6, 2) := by decide +kernel
theorem dX9_goal_18 : decode cX9_goal 18 = .ok (.if_icmp .ne 7, 3) := by decide +kernel
theorem dX9_goal_21 : decode cX9_goal 21 = .ok (.iconst 1, 1) := by decide +kernel
theorem dX9_goal_22 : decode cX9_goal 22 = .ok (.goto 4, 3) := by decide +kernel
theorem dX9_goal_25 : decode cX9_goal 25 = .ok (.iconst 0, 1) := by decide +kernel
theorem dX9_goal_26 : decode cX9_goal 26 = .ok (.istore_n 2, 1) := by decide +kernel
theorem dX9_goal_27 : decode cX9_goal 27 = .ok (.bipush (-5), 2) := by decide +kernel
theorem dX9_goal_29 : decode cX9_goal 29 = .ok (.istore_n 3, 1) := by decide +kernel
theorem dX9_goal_30 : decode cX9_goal 30 = .ok (.iconst 0, 1) := by decide +kernel
theorem dX9_goal_31 : decode cX9_goal 31 = .ok (.istore 4, 2) := by decide +kernel
theorem dX9_goal_33 : decode cX9_goal 33 = .ok (.iconst 0, 1) := by decide +kernel
theorem dX9_goal_34 : decode cX9_goal 34 = .ok (.istore 5, 2) := by decide +kernel
theorem dX9_goal_36 : decode cX9_goal 36 = .ok (.iload 5, 2) := by decide +kernel
theorem dX9_goal_38 : decode cX9_goal 38 = .ok (.aload_n 0, 1) := by decide +kernel
theorem dX9_goal_39 : decode cX9_goal 39 = .ok (.getfield 7, 3) := by decide +kernel
theorem dX9_goal_42 : decode cX9_goal 42 = .ok (.if_icmp .ge 90, 3) := by decide +kernel
theorem dX9_goal_45 : decode cX9_goal 45 = .ok (.aload_n 0, 1) := by decide +kernel
theorem dX9_goal_46 : decode cX9_goal 46 = .ok (.aload_n 0, 1) := by decide +kernel
theorem dX9_goal_47 : decode cX9_goal 47 = .ok (.getfield 50, 3) := by decide +kernel
theorem dX9_goal_50 : decode cX9_goal 50 = .ok (.iload_n 1, 1) := by decide +kernel
theorem dX9_goal_51 : decode cX9_goal 51 = .ok (.iaload, 1) := by decide +kernel
theorem dX9_goal_52 : decode cX9_goal 52 = .ok (.iload 5, 2) := by decide +kernel
theorem dX9_goal_54 : decode cX9_goal 54 = .ok (.invokevirtual 312, 3) := by decide +kernel
theorem dX9_goal_57 : decode cX9_goal 57 = .ok (.ifCond .eq 6, 3) := by decide +kernel
theorem dX9_goal_60 : decode cX9_goal 60 = .ok (.goto 66, 3) := by decide +kernel
theorem dX9_goal_63 : decode cX9_goal 63 = .ok (.iload_n 2, 1) := by decide +kernel
theorem dX9_goal_64 : decode cX9_goal 64 = .ok (.ifCond .eq 22, 3) := by decide +kernel
theorem dX9_goal_67 : decode cX9_goal 67 = .ok (.aload_n 0, 1) := by decide +kernel
theorem dX9_goal_68 : decode cX9_goal 68 = .ok (.aload_n 0, 1) := by decide +kernel
theorem dX9_goal_69 : decode cX9_goal 69 = .ok (.getfield 28, 3) := by decide +kernel
theorem dX9_goal_72 : decode cX9_goal 72 = .ok (.aload_n 0, 1) := by decide +kernel
theorem dX9_goal_73 : decode cX9_goal 73 = .ok (.getfield 37, 3) := by decide +kernel
theorem dX9_goal_76 : decode cX9_goal 76 = .ok (.iload 5, 2) := by decide +kernel
theorem dX9_goal_78 : decode cX9_goal 78 = .ok (.iaload, 1) := by decide +kernel
theorem dX9_goal_79 : decode cX9_goal 79 = .ok (.invokevirtual 387, 3) := by decide +kernel
theorem dX9_goal_82 : decode cX9_goal 82 = .ok (.ineg, 1) := by decide +kernel
theorem dX9_goal_83 : decode cX9_goal 83 = .ok (.goto 20, 3) := by decide +kernel
theorem dX9_goal_86 : decode cX9_goal 86 = .ok (.aload_n 0, 1) := by decide +kernel
theorem dX9_goal_87 : decode cX9_goal 87 = .ok (.aload_n 0, 1) := by decide +kernel
theorem dX9_goal_88 : decode cX9_goal 88 = .ok (.getfield 47, 3) := by decide +kernel
theorem dX9_goal_91 : decode cX9_goal 91 = .ok (.iload_n 1, 1) := by decide +kernel
theorem dX9_goal_92 : decode cX9_goal 92 = .ok (.iaload, 1) := by decide +kernel
theorem dX9_goal_93 : decode cX9_goal 93 = .ok (.aload_n 0, 1) := by decide +kernel
theorem dX9_goal_94 : decode cX9_goal 94 = .ok (.getfield 37, 3) := by decide +kernel
theorem dX9_goal_97 : decode cX9_goal 97 = .ok (.iload 5, 2) := by decide +kernel
theorem dX9_goal_99 : decode cX9_goal 99 = .ok (.iaload, 1) := by decide +kernel
theorem dX9_goal_100 : decode cX9_goal 100 = .ok (.invokevirtual 387, 3) := by decide +kernel
theorem dX9_goal_103 : decode cX9_goal 103 = .ok (.istore 6, 2) := by decide +kernel
theorem dX9_goal_105 : decode cX9_goal 105 = .ok (.iload_n 3, 1) := by decide +kernel
theorem dX9_goal_106 : decode cX9_goal 106 = .ok (.ifCond .lt 13, 3) := by decide +kernel
theorem dX9_goal_109 : decode cX9_goal 109 = .ok (.iload 6, 2) := by decide +kernel
theorem dX9_goal_111 : decode cX9_goal 111 = .ok (.iload 4, 2) := by decide +kernel
theorem dX9_goal_113 : decode cX9_goal 113 = .ok (.if_icmp .lt 6, 3) := by decide +kernel
theorem dX9_goal_116 : decode cX9_goal 116 = .ok (.goto 10, 3) := by decide +kernel
theorem dX9_goal_119 : decode cX9_goal 119 = .ok (.iload 5, 2) := by decide +kernel
theorem dX9_goal_121 : decode cX9_goal 121 = .ok (.istore_n 3, 1) := by decide +kernel
theorem dX9_goal_122 : decode cX9_goal 122 = .ok (.iload 6, 2) := by decide +kernel
theorem dX9_goal_124 : decode cX9_goal 124 = .ok (.istore 4, 2) := by decide +kernel
theorem dX9_goal_126 : decode cX9_goal 126 = .ok (.iinc 5 1, 3) := by decide +kernel
theorem dX9_goal_129 : decode cX9_goal 129 = .ok (.goto (-93), 3) := by decide +kernel
theorem dX9_goal_132 : decode cX9_goal 132 = .ok (.iload_n 3, 1) := by decide +kernel
theorem dX9_goal_133 : decode cX9_goal 133 = .ok (.ireturn, 1) := by decide +kernel
theorem dX9_of_0 : decode cX9_of 0 = .ok (.aload_n 0, 1) := by decide +kernel
theorem dX9_of_1 : decode cX9_of 1 = .ok (.iload_n 1, 1) := by decide +kernel
theorem dX9_of_2 : decode cX9_of 2 = .ok (.invokevirtual 305, 3) := by decide +kernel
theorem dX9_of_5 : decode cX9_of 5 = .ok (.ifCond .ne 7, 3) := by decide +kernel
theorem dX9_of_8 : decode cX9_of 8 = .ok (.sipush (-1001), 3) := by decide +kernel
theorem dX9_of_11 : decode cX9_of 11 = .ok (.ireturn, 1) := by decide +kernel
theorem dX9_of_12 : decode cX9_of 12 = .ok (.iload_n 2, 1) := by decide +kernel
theorem dX9_of_13 : decode cX9_of 13 = .ok (.tableswitch 151 0 9 #[55, 62, 69, 76, 94, 101, 119, 125, 139, 145], 55) := by decide +kernel
theorem dX9_of_68 : decode cX9_of 68 = .ok (.aload_n 0, 1) := by decide +kernel
theorem dX9_of_69 : decode cX9_of 69 = .ok (.getfield 41, 3) := by decide +kernel
theorem dX9_of_72 : decode cX9_of 72 = .ok (.iload_n 1, 1) := by decide +kernel
theorem dX9_of_73 : decode cX9_of 73 = .ok (.iaload, 1) := by decide +kernel
theorem dX9_of_74 : decode cX9_of 74 = .ok (.ireturn, 1) := by decide +kernel
theorem dX9_of_75 : decode cX9_of 75 = .ok (.aload_n 0, 1) := by decide +kernel
theorem dX9_of_76 : decode cX9_of 76 = .ok (.getfield 44, 3) := by decide +kernel
theorem dX9_of_79 : decode cX9_of 79 = .ok (.iload_n 1, 1) := by decide +kernel
theorem dX9_of_80 : decode cX9_of 80 = .ok (.iaload, 1) := by decide +kernel
theorem dX9_of_81 : decode cX9_of 81 = .ok (.ireturn, 1) := by decide +kernel
theorem dX9_of_82 : decode cX9_of 82 = .ok (.aload_n 0, 1) := by decide +kernel
theorem dX9_of_83 : decode cX9_of 83 = .ok (.getfield 47, 3) := by decide +kernel
theorem dX9_of_86 : decode cX9_of 86 = .ok (.iload_n 1, 1) := by decide +kernel
theorem dX9_of_87 : decode cX9_of 87 = .ok (.iaload, 1) := by decide +kernel
theorem dX9_of_88 : decode cX9_of 88 = .ok (.ireturn, 1) := by decide +kernel
theorem dX9_of_89 : decode cX9_of 89 = .ok (.aload_n 0, 1) := by decide +kernel
theorem dX9_of_90 : decode cX9_of 90 = .ok (.aload_n 0, 1) := by decide +kernel
theorem dX9_of_91 : decode cX9_of 91 = .ok (.getfield 22, 3) := by decide +kernel
theorem dX9_of_94 : decode cX9_of 94 = .ok (.iload_n 1, 1) := by decide +kernel
theorem dX9_of_95 : decode cX9_of 95 = .ok (.invokevirtual 312, 3) := by decide +kernel
theorem dX9_of_98 : decode cX9_of 98 = .ok (.ifCond .eq 7, 3) := by decide +kernel
theorem dX9_of_101 : decode cX9_of 101 = .ok (.iconst 1, 1) := by decide +kernel
theorem dX9_of_102 : decode cX9_of 102 = .ok (.goto 4, 3) := by decide +kernel
theorem dX9_of_105 : decode cX9_of 105 = .ok (.iconst 0, 1) := by decide +kernel
theorem dX9_of_106 : decode cX9_of 106 = .ok (.ireturn, 1) := by decide +kernel
theorem dX9_of_107 : decode cX9_of 107 = .ok (.aload_n 0, 1) := by decide +kernel
theorem dX9_of_108 : decode cX9_of 108 = .ok (.getfield 50, 3) := by decide +kernel
theorem dX9_of_111 : decode cX9_of 111 = .ok (.iload_n 1, 1) := by decide +kernel
theorem dX9_of_112 : decode cX9_of 112 = .ok (.iaload, 1) := by decide +kernel
theorem dX9_of_113 : decode cX9_of 113 = .ok (.ireturn, 1) := by decide +kernel
theorem dX9_of_114 : decode cX9_of 114 = .ok (.aload_n 0, 1) := by decide +kernel
theorem dX9_of_115 : decode cX9_of 115 = .ok (.aload_n 0, 1) := by decide +kernel
theorem dX9_of_116 : decode cX9_of 116 = .ok (.getfield 25, 3) := by decide +kernel
theorem dX9_of_119 : decode cX9_of 119 = .ok (.iload_n 1, 1) := by decide +kernel
theorem dX9_of_120 : decode cX9_of 120 = .ok (.invokevirtual 312, 3) := by decide +kernel
theorem dX9_of_123 : decode cX9_of 123 = .ok (.ifCond .eq 7, 3) := by decide +kernel
theorem dX9_of_126 : decode cX9_of 126 = .ok (.iconst 1, 1) := by decide +kernel
theorem dX9_of_127 : decode cX9_of 127 = .ok (.goto 4, 3) := by decide +kernel
theorem dX9_of_130 : decode cX9_of 130 = .ok (.iconst 0, 1) := by decide +kernel
theorem dX9_of_131 : decode cX9_of 131 = .ok (.ireturn, 1) := by decide +kernel
theorem dX9_of_132 : decode cX9_of 132 = .ok (.aload_n 0, 1) := by decide +kernel
theorem dX9_of_133 : decode cX9_of 133 = .ok (.iload_n 1, 1) := by decide +kernel
theorem dX9_of_134 : decode cX9_of 134 = .ok (.invokevirtual 390, 3) := by decide +kernel
theorem dX9_of_137 : decode cX9_of 137 = .ok (.ireturn, 1) := by decide +kernel
theorem dX9_of_138 : decode cX9_of 138 = .ok (.aload_n 0, 1) := by decide +kernel
theorem dX9_of_139 : decode cX9_of 139 = .ok (.iload_n 1, 1) := by decide +kernel
theorem dX9_of_140 : decode cX9_of 140 = .ok (.invokevirtual 393, 3) := by decide +kernel
theorem dX9_of_143 : decode cX9_of 143 = .ok (.ifCond .eq 7, 3) := by decide +kernel
theorem dX9_of_146 : decode cX9_of 146 = .ok (.iconst 1, 1) := by decide +kernel
theorem dX9_of_147 : decode cX9_of 147 = .ok (.goto 4, 3) := by decide +kernel
theorem dX9_of_150 : decode cX9_of 150 = .ok (.iconst 0, 1) := by decide +kernel
theorem dX9_of_151 : decode cX9_of 151 = .ok (.ireturn, 1) := by decide +kernel
theorem dX9_of_152 : decode cX9_of 152 = .ok (.aload_n 0, 1) := by decide +kernel
theorem dX9_of_153 : decode cX9_of 153 = .ok (.iload_n 1, 1) := by decide +kernel
theorem dX9_of_154 : decode cX9_of 154 = .ok (.invokevirtual 396, 3) := by decide +kernel
theorem dX9_of_157 : decode cX9_of 157 = .ok (.ireturn, 1) := by decide +kernel
theorem dX9_of_158 : decode cX9_of 158 = .ok (.aload_n 0, 1) := by decide +kernel
theorem dX9_of_159 : decode cX9_of 159 = .ok (.iload_n 1, 1) := by decide +kernel
theorem dX9_of_160 : decode cX9_of 160 = .ok (.invokevirtual 399, 3) := by decide +kernel
theorem dX9_of_163 : decode cX9_of 163 = .ok (.ireturn, 1) := by decide +kernel
theorem dX9_of_164 : decode cX9_of 164 = .ok (.sipush (-1001), 3) := by decide +kernel
theorem dX9_of_167 : decode cX9_of 167 = .ok (.ireturn, 1) := by decide +kernel
theorem dX9_told_0 : decode cX9_told 0 = .ok (.aload_n 0, 1) := by decide +kernel
theorem dX9_told_1 : decode cX9_told 1 = .ok (.iload_n 1, 1) := by decide +kernel
theorem dX9_told_2 : decode cX9_told 2 = .ok (.bipush 10, 2) := by decide +kernel
theorem dX9_told_4 : decode cX9_told 4 = .ok (.bipush 9, 2) := by decide +kernel
theorem dX9_told_6 : decode cX9_told 6 = .ok (.aload_n 0, 1) := by decide +kernel
theorem dX9_told_7 : decode cX9_told 7 = .ok (.getfield 7, 3) := by decide +kernel
theorem dX9_told_10 : decode cX9_told 10 = .ok (.iadd, 1) := by decide +kernel
theorem dX9_told_11 : decode cX9_told 11 = .ok (.invokevirtual 293, 3) := by decide +kernel
theorem dX9_told_14 : decode cX9_told 14 = .ok (.ifCond .eq 13, 3) := by decide +kernel
theorem dX9_told_17 : decode cX9_told 17 = .ok (.aload_n 0, 1) := by decide +kernel
theorem dX9_told_18 : decode cX9_told 18 = .ok (.getfield 37, 3) := by decide +kernel
theorem dX9_told_21 : decode cX9_told 21 = .ok (.iload_n 1, 1) := by decide +kernel
theorem dX9_told_22 : decode cX9_told 22 = .ok (.bipush 10, 2) := by decide +kernel
theorem dX9_told_24 : decode cX9_told 24 = .ok (.isub, 1) := by decide +kernel
theorem dX9_told_25 : decode cX9_told 25 = .ok (.iaload, 1) := by decide +kernel
theorem dX9_told_26 : decode cX9_told 26 = .ok (.ireturn, 1) := by decide +kernel
theorem dX9_told_27 : decode cX9_told 27 = .ok (.iload_n 1, 1) := by decide +kernel
theorem dX9_told_28 : decode cX9_told 28 = .ok (.tableswitch 82 0 6 #[44, 49, 57, 62, 67, 72, 77], 44) := by decide +kernel
theorem dX9_told_72 : decode cX9_told 72 = .ok (.aload_n 0, 1) := by decide +kernel
theorem dX9_told_73 : decode cX9_told 73 = .ok (.getfield 16, 3) := by decide +kernel
theorem dX9_told_76 : decode cX9_told 76 = .ok (.ireturn, 1) := by decide +kernel
theorem dX9_told_77 : decode cX9_told 77 = .ok (.aload_n 0, 1) := by decide +kernel
theorem dX9_told_78 : decode cX9_told 78 = .ok (.iconst 2, 1) := by decide +kernel
theorem dX9_told_79 : decode cX9_told 79 = .ok (.bipush 8, 2) := by decide +kernel
theorem dX9_told_81 : decode cX9_told 81 = .ok (.invokevirtual 371, 3) := by decide +kernel
theorem dX9_told_84 : decode cX9_told 84 = .ok (.ireturn, 1) := by decide +kernel
theorem dX9_told_85 : decode cX9_told 85 = .ok (.aload_n 0, 1) := by decide +kernel
theorem dX9_told_86 : decode cX9_told 86 = .ok (.invokevirtual 402, 3) := by decide +kernel
theorem dX9_told_89 : decode cX9_told 89 = .ok (.ireturn, 1) := by decide +kernel
theorem dX9_told_90 : decode cX9_told 90 = .ok (.aload_n 0, 1) := by decide +kernel
theorem dX9_told_91 : decode cX9_told 91 = .ok (.getfield 28, 3) := by decide +kernel
theorem dX9_told_94 : decode cX9_told 94 = .ok (.ireturn, 1) := by decide +kernel
theorem dX9_told_95 : decode cX9_told 95 = .ok (.aload_n 0, 1) := by decide +kernel
theorem dX9_told_96 : decode cX9_told 96 = .ok (.getfield 31, 3) := by decide +kernel
theorem dX9_told_99 : decode cX9_told 99 = .ok (.ireturn, 1) := by decide +kernel
theorem dX9_told_100 : decode cX9_told 100 = .ok (.aload_n 0, 1) := by decide +kernel
theorem dX9_told_101 : decode cX9_told 101 = .ok (.getfield 19, 3) := by decide +kernel
theorem dX9_told_104 : decode cX9_told 104 = .ok (.ireturn, 1) := by decide +kernel
theorem dX9_told_105 : decode cX9_told 105 = .ok (.aload_n 0, 1) := by decide +kernel
theorem dX9_told_106 : decode cX9_told 106 = .ok (.getfield 25, 3) := by decide +kernel
theorem dX9_told_109 : decode cX9_told 109 = .ok (.ireturn, 1) := by decide +kernel
theorem dX9_told_110 : decode cX9_told 110 = .ok (.iconst (-1), 1) := by decide +kernel
theorem dX9_told_111 : decode cX9_told 111 = .ok (.ireturn, 1) := by decide +kernel
theorem dX9_goPerson_0 : decode cX9_goPerson 0 = .ok (.aload_n 0, 1) := by decide +kernel
theorem dX9_goPerson_1 : decode cX9_goPerson 1 = .ok (.getfield 123, 3) := by decide +kernel
theorem dX9_goPerson_4 : decode cX9_goPerson 4 = .ok (.iload_n 1, 1) := by decide +kernel
theorem dX9_goPerson_5 : decode cX9_goPerson 5 = .ok (.aload_n 0, 1) := by decide +kernel
theorem dX9_goPerson_6 : decode cX9_goPerson 6 = .ok (.getfield 47, 3) := by decide +kernel
theorem dX9_goPerson_9 : decode cX9_goPerson 9 = .ok (.iload_n 1, 1) := by decide +kernel
theorem dX9_goPerson_10 : decode cX9_goPerson 10 = .ok (.iaload, 1) := by decide +kernel
theorem dX9_goPerson_11 : decode cX9_goPerson 11 = .ok (.iastore, 1) := by decide +kernel
theorem dX9_goPerson_12 : decode cX9_goPerson 12 = .ok (.aload_n 0, 1) := by decide +kernel
theorem dX9_goPerson_13 : decode cX9_goPerson 13 = .ok (.aload_n 0, 1) := by decide +kernel
theorem dX9_goPerson_14 : decode cX9_goPerson 14 = .ok (.getfield 25, 3) := by decide +kernel
theorem dX9_goPerson_17 : decode cX9_goPerson 17 = .ok (.iload_n 1, 1) := by decide +kernel
theorem dX9_goPerson_18 : decode cX9_goPerson 18 = .ok (.invokevirtual 312, 3) := by decide +kernel
theorem dX9_goPerson_21 : decode cX9_goPerson 21 = .ok (.ifCond .ne 23, 3) := by decide +kernel
theorem dX9_goPerson_24 : decode cX9_goPerson 24 = .ok (.aload_n 0, 1) := by decide +kernel
theorem dX9_goPerson_25 : decode cX9_goPerson 25 = .ok (.aload_n 0, 1) := by decide +kernel
theorem dX9_goPerson_26 : decode cX9_goPerson 26 = .ok (.getfield 22, 3) := by decide +kernel
theorem dX9_goPerson_29 : decode cX9_goPerson 29 = .ok (.iload_n 1, 1) := by decide +kernel
theorem dX9_goPerson_30 : decode cX9_goPerson 30 = .ok (.invokevirtual 312, 3) := by decide +kernel
theorem dX9_goPerson_33 : decode cX9_goPerson 33 = .ok (.ifCond .ne 12, 3) := by decide +kernel
theorem dX9_goPerson_36 : decode cX9_goPerson 36 = .ok (.aload_n 0, 1) := by decide +kernel
theorem dX9_goPerson_37 : decode cX9_goPerson 37 = .ok (.iload_n 1, 1) := by decide +kernel
theorem dX9_goPerson_38 : decode cX9_goPerson 38 = .ok (.invokevirtual 393, 3) := by decide +kernel
theorem dX9_goPerson_41 : decode cX9_goPerson 41 = .ok (.ifCond .ne 4, 3) := by decide +kernel
theorem dX9_goPerson_44 : decode cX9_goPerson 44 = .ok (.return_, 1) := by decide +kernel
theorem dX9_goPerson_45 : decode cX9_goPerson 45 = .ok (.aload_n 0, 1) := by decide +kernel
theorem dX9_goPerson_46 : decode cX9_goPerson 46 = .ok (.dup, 1) := by decide +kernel
theorem dX9_goPerson_47 : decode cX9_goPerson 47 = .ok (.getfield 126, 3) := by decide +kernel
theorem dX9_goPerson_50 : decode cX9_goPerson 50 = .ok (.iconst 1, 1) := by decide +kernel
theorem dX9_goPerson_51 : decode cX9_goPerson 51 = .ok (.iload_n 1, 1) := by decide +kernel
theorem dX9_goPerson_52 : decode cX9_goPerson 52 = .ok (.ishl, 1) := by decide +kernel
theorem dX9_goPerson_53 : decode cX9_goPerson 53 = .ok (.ior, 1) := by decide +kernel
theorem dX9_goPerson_54 : decode cX9_goPerson 54 = .ok (.putfield 126, 3) := by decide +kernel
theorem dX9_goPerson_57 : decode cX9_goPerson 57 = .ok (.aload_n 0, 1) := by decide +kernel
theorem dX9_goPerson_58 : decode cX9_goPerson 58 = .ok (.iload_n 1, 1) := by decide +kernel
theorem dX9_goPerson_59 : decode cX9_goPerson 59 = .ok (.invokevirtual 399, 3) := by decide +kernel
theorem dX9_goPerson_62 : decode cX9_goPerson 62 = .ok (.istore_n 2, 1) := by decide +kernel
theorem dX9_goPerson_63 : decode cX9_goPerson 63 = .ok (.iload_n 2, 1) := by decide +kernel
theorem dX9_goPerson_64 : decode cX9_goPerson 64 = .ok (.ifCond .ge 4, 3) := by decide +kernel
theorem dX9_goPerson_67 : decode cX9_goPerson 67 = .ok (.return_, 1) := by decide +kernel
theorem dX9_goPerson_68 : decode cX9_goPerson 68 = .ok (.aload_n 0, 1) := by decide +kernel
theorem dX9_goPerson_69 : decode cX9_goPerson 69 = .ok (.getfield 123, 3) := by decide +kernel
theorem dX9_goPerson_72 : decode cX9_goPerson 72 = .ok (.iload_n 1, 1) := by decide +kernel
theorem dX9_goPerson_73 : decode cX9_goPerson 73 = .ok (.aload_n 0, 1) := by decide +kernel
theorem dX9_goPerson_74 : decode cX9_goPerson 74 = .ok (.aload_n 0, 1) := by decide +kernel
theorem dX9_goPerson_75 : decode cX9_goPerson 75 = .ok (.getfield 47, 3) := by decide +kernel
theorem dX9_goPerson_78 : decode cX9_goPerson 78 = .ok (.iload_n 1, 1) := by decide +kernel
theorem dX9_goPerson_79 : decode cX9_goPerson 79 = .ok (.iaload, 1) := by decide +kernel
theorem dX9_goPerson_80 : decode cX9_goPerson 80 = .ok (.aload_n 0, 1) := by decide +kernel
theorem dX9_goPerson_81 : decode cX9_goPerson 81 = .ok (.getfield 37, 3) := by decide +kernel
theorem dX9_goPerson_84 : decode cX9_goPerson 84 = .ok (.iload_n 2, 1) := by decide +kernel
theorem dX9_goPerson_85 : decode cX9_goPerson 85 = .ok (.iaload, 1) := by decide +kernel
theorem dX9_goPerson_86 : decode cX9_goPerson 86 = .ok (.aload_n 0, 1) := by decide +kernel
theorem dX9_goPerson_87 : decode cX9_goPerson 87 = .ok (.iload_n 1, 1) := by decide +kernel
theorem dX9_goPerson_88 : decode cX9_goPerson 88 = .ok (.invokevirtual 396, 3) := by decide +kernel
theorem dX9_goPerson_91 : decode cX9_goPerson 91 = .ok (.invokevirtual 405, 3) := by decide +kernel
theorem dX9_goPerson_94 : decode cX9_goPerson 94 = .ok (.iastore, 1) := by decide +kernel
theorem dX9_goPerson_95 : decode cX9_goPerson 95 = .ok (.aload_n 0, 1) := by decide +kernel
theorem dX9_goPerson_96 : decode cX9_goPerson 96 = .ok (.getfield 123, 3) := by decide +kernel
theorem dX9_goPerson_99 : decode cX9_goPerson 99 = .ok (.iload_n 1, 1) := by decide +kernel
theorem dX9_goPerson_100 : decode cX9_goPerson 100 = .ok (.iaload, 1) := by decide +kernel
theorem dX9_goPerson_101 : decode cX9_goPerson 101 = .ok (.aload_n 0, 1) := by decide +kernel
theorem dX9_goPerson_102 : decode cX9_goPerson 102 = .ok (.getfield 37, 3) := by decide +kernel
theorem dX9_goPerson_105 : decode cX9_goPerson 105 = .ok (.iload_n 2, 1) := by decide +kernel
theorem dX9_goPerson_106 : decode cX9_goPerson 106 = .ok (.iaload, 1) := by decide +kernel
theorem dX9_goPerson_107 : decode cX9_goPerson 107 = .ok (.if_icmp .eq 4, 3) := by decide +kernel
theorem dX9_goPerson_110 : decode cX9_goPerson 110 = .ok (.return_, 1) := by decide +kernel
theorem dX9_goPerson_111 : decode cX9_goPerson 111 = .ok (.aload_n 0, 1) := by decide +kernel
theorem dX9_goPerson_112 : decode cX9_goPerson 112 = .ok (.aload_n 0, 1) := by decide +kernel
theorem dX9_goPerson_113 : decode cX9_goPerson 113 = .ok (.getfield 19, 3) := by decide +kernel
theorem dX9_goPerson_116 : decode cX9_goPerson 116 = .ok (.iload_n 2, 1) := by decide +kernel
theorem dX9_goPerson_117 : decode cX9_goPerson 117 = .ok (.invokevirtual 312, 3) := by decide +kernel
theorem dX9_goPerson_120 : decode cX9_goPerson 120 = .ok (.ifCond .eq 18, 3) := by decide +kernel
theorem dX9_goPerson_123 : decode cX9_goPerson 123 = .ok (.aload_n 0, 1) := by decide +kernel
theorem dX9_goPerson_124 : decode cX9_goPerson 124 = .ok (.getfield 50, 3) := by decide +kernel
theorem dX9_goPerson_127 : decode cX9_goPerson 127 = .ok (.iload_n 1, 1) := by decide +kernel
theorem dX9_goPerson_128 : decode cX9_goPerson 128 = .ok (.dup2, 1) := by decide +kernel
theorem dX9_goPerson_129 : decode cX9_goPerson 129 = .ok (.iaload, 1) := by decide +kernel
theorem dX9_goPerson_130 : decode cX9_goPerson 130 = .ok (.iconst 1, 1) := by decide +kernel
theorem dX9_goPerson_131 : decode cX9_goPerson 131 = .ok (.iload_n 2, 1) := by decide +kernel
theorem dX9_goPerson_132 : decode cX9_goPerson 132 = .ok (.ishl, 1) := by decide +kernel
theorem dX9_goPerson_133 : decode cX9_goPerson 133 = .ok (.ior, 1) := by decide +kernel
theorem dX9_goPerson_134 : decode cX9_goPerson 134 = .ok (.iastore, 1) := by decide +kernel
theorem dX9_goPerson_135 : decode cX9_goPerson 135 = .ok (.goto 15, 3) := by decide +kernel
theorem dX9_goPerson_138 : decode cX9_goPerson 138 = .ok (.aload_n 0, 1) := by decide +kernel
theorem dX9_goPerson_139 : decode cX9_goPerson 139 = .ok (.dup, 1) := by decide +kernel
theorem dX9_goPerson_140 : decode cX9_goPerson 140 = .ok (.getfield 129, 3) := by decide +kernel
theorem dX9_goPerson_143 : decode cX9_goPerson 143 = .ok (.iconst 1, 1) := by decide +kernel
theorem dX9_goPerson_144 : decode cX9_goPerson 144 = .ok (.iload_n 1, 1) := by decide +kernel
theorem dX9_goPerson_145 : decode cX9_goPerson 145 = .ok (.ishl, 1) := by decide +kernel
theorem dX9_goPerson_146 : decode cX9_goPerson 146 = .ok (.ior, 1) := by decide +kernel
theorem dX9_goPerson_147 : decode cX9_goPerson 147 = .ok (.putfield 129, 3) := by decide +kernel
theorem dX9_goPerson_150 : decode cX9_goPerson 150 = .ok (.return_, 1) := by decide +kernel
theorem dX9_goKeeper_0 : decode cX9_goKeeper 0 = .ok (.aload_n 0, 1) := by decide +kernel
theorem dX9_goKeeper_1 : decode cX9_goKeeper 1 = .ok (.getfield 113, 3) := by decide +kernel
theorem dX9_goKeeper_4 : decode cX9_goKeeper 4 = .ok (.ifCond .le 14, 3) := by decide +kernel
theorem dX9_goKeeper_7 : decode cX9_goKeeper 7 = .ok (.aload_n 0, 1) := by decide +kernel
theorem dX9_goKeeper_8 : decode cX9_goKeeper 8 = .ok (.dup, 1) := by decide +kernel
theorem dX9_goKeeper_9 : decode cX9_goKeeper 9 = .ok (.getfield 113, 3) := by decide +kernel
theorem dX9_goKeeper_12 : decode cX9_goKeeper 12 = .ok (.iconst 1, 1) := by decide +kernel
theorem dX9_goKeeper_13 : decode cX9_goKeeper 13 = .ok (.isub, 1) := by decide +kernel
theorem dX9_goKeeper_14 : decode cX9_goKeeper 14 = .ok (.putfield 113, 3) := by decide +kernel
theorem dX9_goKeeper_17 : decode cX9_goKeeper 17 = .ok (.return_, 1) := by decide +kernel
theorem dX9_goKeeper_18 : decode cX9_goKeeper 18 = .ok (.aload_n 0, 1) := by decide +kernel
theorem dX9_goKeeper_19 : decode cX9_goKeeper 19 = .ok (.getfield 31, 3) := by decide +kernel
theorem dX9_goKeeper_22 : decode cX9_goKeeper 22 = .ok (.aload_n 0, 1) := by decide +kernel
theorem dX9_goKeeper_23 : decode cX9_goKeeper 23 = .ok (.getfield 34, 3) := by decide +kernel
theorem dX9_goKeeper_26 : decode cX9_goKeeper 26 = .ok (.if_icmp .lt 4, 3) := by decide +kernel
theorem dX9_goKeeper_29 : decode cX9_goKeeper 29 = .ok (.return_, 1) := by decide +kernel
theorem dX9_goKeeper_30 : decode cX9_goKeeper 30 = .ok (.aload_n 0, 1) := by decide +kernel
theorem dX9_goKeeper_31 : decode cX9_goKeeper 31 = .ok (.getfield 56, 3) := by decide +kernel
theorem dX9_goKeeper_34 : decode cX9_goKeeper 34 = .ok (.aload_n 0, 1) := by decide +kernel
theorem dX9_goKeeper_35 : decode cX9_goKeeper 35 = .ok (.getfield 31, 3) := by decide +kernel
theorem dX9_goKeeper_38 : decode cX9_goKeeper 38 = .ok (.iaload, 1) := by decide +kernel
theorem dX9_goKeeper_39 : decode cX9_goKeeper 39 = .ok (.istore_n 1, 1) := by decide +kernel
theorem dX9_goKeeper_40 : decode cX9_goKeeper 40 = .ok (.aload_n 0, 1) := by decide +kernel
theorem dX9_goKeeper_41 : decode cX9_goKeeper 41 = .ok (.aload_n 0, 1) := by decide +kernel
theorem dX9_goKeeper_42 : decode cX9_goKeeper 42 = .ok (.aload_n 0, 1) := by decide +kernel
theorem dX9_goKeeper_43 : decode cX9_goKeeper 43 = .ok (.getfield 28, 3) := by decide +kernel
theorem dX9_goKeeper_46 : decode cX9_goKeeper 46 = .ok (.aload_n 0, 1) := by decide +kernel
theorem dX9_goKeeper_47 : decode cX9_goKeeper 47 = .ok (.getfield 37, 3) := by decide +kernel
theorem dX9_goKeeper_50 : decode cX9_goKeeper 50 = .ok (.iload_n 1, 1) := by decide +kernel
theorem dX9_goKeeper_51 : decode cX9_goKeeper 51 = .ok (.iaload, 1) := by decide +kernel
theorem dX9_goKeeper_52 : decode cX9_goKeeper 52 = .ok (.aload_n 0, 1) := by decide +kernel
theorem dX9_goKeeper_53 : decode cX9_goKeeper 53 = .ok (.invokevirtual 402, 3) := by decide +kernel
theorem dX9_goKeeper_56 : decode cX9_goKeeper 56 = .ok (.invokevirtual 405, 3) := by decide +kernel
theorem dX9_goKeeper_59 : decode cX9_goKeeper 59 = .ok (.putfield 28, 3) := by decide +kernel
theorem dX9_goKeeper_62 : decode cX9_goKeeper 62 = .ok (.aload_n 0, 1) := by decide +kernel
theorem dX9_goKeeper_63 : decode cX9_goKeeper 63 = .ok (.getfield 28, 3) := by decide +kernel
theorem dX9_goKeeper_66 : decode cX9_goKeeper 66 = .ok (.aload_n 0, 1) := by decide +kernel
theorem dX9_goKeeper_67 : decode cX9_goKeeper 67 = .ok (.getfield 37, 3) := by decide +kernel
theorem dX9_goKeeper_70 : decode cX9_goKeeper 70 = .ok (.iload_n 1, 1) := by decide +kernel
theorem dX9_goKeeper_71 : decode cX9_goKeeper 71 = .ok (.iaload, 1) := by decide +kernel
theorem dX9_goKeeper_72 : decode cX9_goKeeper 72 = .ok (.if_icmp .eq 4, 3) := by decide +kernel
theorem dX9_goKeeper_75 : decode cX9_goKeeper 75 = .ok (.return_, 1) := by decide +kernel
theorem dX9_goKeeper_76 : decode cX9_goKeeper 76 = .ok (.iload_n 1, 1) := by decide +kernel
theorem dX9_goKeeper_77 : decode cX9_goKeeper 77 = .ok (.aload_n 0, 1) := by decide +kernel
theorem dX9_goKeeper_78 : decode cX9_goKeeper 78 = .ok (.getfield 116, 3) := by decide +kernel
theorem dX9_goKeeper_81 : decode cX9_goKeeper 81 = .ok (.if_icmp .eq 15, 3) := by decide +kernel
theorem dX9_goKeeper_84 : decode cX9_goKeeper 84 = .ok (.aload_n 0, 1) := by decide +kernel
theorem dX9_goKeeper_85 : decode cX9_goKeeper 85 = .ok (.dup, 1) := by decide +kernel
theorem dX9_goKeeper_86 : decode cX9_goKeeper 86 = .ok (.getfield 19, 3) := by decide +kernel
theorem dX9_goKeeper_89 : decode cX9_goKeeper 89 = .ok (.iconst 1, 1) := by decide +kernel
theorem dX9_goKeeper_90 : decode cX9_goKeeper 90 = .ok (.iload_n 1, 1) := by decide +kernel
theorem dX9_goKeeper_91 : decode cX9_goKeeper 91 = .ok (.ishl, 1) := by decide +kernel
theorem dX9_goKeeper_92 : decode cX9_goKeeper 92 = .ok (.ior, 1) := by decide +kernel
theorem dX9_goKeeper_93 : decode cX9_goKeeper 93 = .ok (.putfield 19, 3) := by decide +kernel
theorem dX9_goKeeper_96 : decode cX9_goKeeper 96 = .ok (.aload_n 0, 1) := by decide +kernel
theorem dX9_goKeeper_97 : decode cX9_goKeeper 97 = .ok (.dup, 1) := by decide +kernel
theorem dX9_goKeeper_98 : decode cX9_goKeeper 98 = .ok (.getfield 31, 3) := by decide +kernel
theorem dX9_goKeeper_101 : decode cX9_goKeeper 101 = .ok (.iconst 1, 1) := by decide +kernel
theorem dX9_goKeeper_102 : decode cX9_goKeeper 102 = .ok (.iadd, 1) := by decide +kernel
theorem dX9_goKeeper_103 : decode cX9_goKeeper 103 = .ok (.putfield 31, 3) := by decide +kernel
theorem dX9_goKeeper_106 : decode cX9_goKeeper 106 = .ok (.return_, 1) := by decide +kernel
theorem dX9_goMinute_0 : decode cX9_goMinute 0 = .ok (.aload_n 0, 1) := by decide +kernel
theorem dX9_goMinute_1 : decode cX9_goMinute 1 = .ok (.aload_n 0, 1) := by decide +kernel
theorem dX9_goMinute_2 : decode cX9_goMinute 2 = .ok (.getfield 22, 3) := by decide +kernel
theorem dX9_goMinute_5 : decode cX9_goMinute 5 = .ok (.putfield 126, 3) := by decide +kernel
theorem dX9_goMinute_8 : decode cX9_goMinute 8 = .ok (.aload_n 0, 1) := by decide +kernel
theorem dX9_goMinute_9 : decode cX9_goMinute 9 = .ok (.aload_n 0, 1) := by decide +kernel
theorem dX9_goMinute_10 : decode cX9_goMinute 10 = .ok (.getfield 25, 3) := by decide +kernel
theorem dX9_goMinute_13 : decode cX9_goMinute 13 = .ok (.putfield 129, 3) := by decide +kernel
theorem dX9_goMinute_16 : decode cX9_goMinute 16 = .ok (.iconst 0, 1) := by decide +kernel
theorem dX9_goMinute_17 : decode cX9_goMinute 17 = .ok (.istore_n 1, 1) := by decide +kernel
theorem dX9_goMinute_18 : decode cX9_goMinute 18 = .ok (.iload_n 1, 1) := by decide +kernel
theorem dX9_goMinute_19 : decode cX9_goMinute 19 = .ok (.aload_n 0, 1) := by decide +kernel
theorem dX9_goMinute_20 : decode cX9_goMinute 20 = .ok (.getfield 13, 3) := by decide +kernel
theorem dX9_goMinute_23 : decode cX9_goMinute 23 = .ok (.if_icmp .ge 14, 3) := by decide +kernel
theorem dX9_goMinute_26 : decode cX9_goMinute 26 = .ok (.aload_n 0, 1) := by decide +kernel
theorem dX9_goMinute_27 : decode cX9_goMinute 27 = .ok (.iload_n 1, 1) := by decide +kernel
theorem dX9_goMinute_28 : decode cX9_goMinute 28 = .ok (.invokevirtual 409, 3) := by decide +kernel
theorem dX9_goMinute_31 : decode cX9_goMinute 31 = .ok (.iinc 1 1, 3) := by decide +kernel
theorem dX9_goMinute_34 : decode cX9_goMinute 34 = .ok (.goto (-16), 3) := by decide +kernel
theorem dX9_goMinute_37 : decode cX9_goMinute 37 = .ok (.aload_n 0, 1) := by decide +kernel
theorem dX9_goMinute_38 : decode cX9_goMinute 38 = .ok (.invokevirtual 412, 3) := by decide +kernel
theorem dX9_goMinute_41 : decode cX9_goMinute 41 = .ok (.iconst 0, 1) := by decide +kernel
theorem dX9_goMinute_42 : decode cX9_goMinute 42 = .ok (.istore_n 1, 1) := by decide +kernel
theorem dX9_goMinute_43 : decode cX9_goMinute 43 = .ok (.iload_n 1, 1) := by decide +kernel
theorem dX9_goMinute_44 : decode cX9_goMinute 44 = .ok (.aload_n 0, 1) := by decide +kernel
theorem dX9_goMinute_45 : decode cX9_goMinute 45 = .ok (.getfield 13, 3) := by decide +kernel
theorem dX9_goMinute_48 : decode cX9_goMinute 48 = .ok (.if_icmp .ge 21, 3) := by decide +kernel
theorem dX9_goMinute_51 : decode cX9_goMinute 51 = .ok (.aload_n 0, 1) := by decide +kernel
theorem dX9_goMinute_52 : decode cX9_goMinute 52 = .ok (.getfield 47, 3) := by decide +kernel
theorem dX9_goMinute_55 : decode cX9_goMinute 55 = .ok (.iload_n 1, 1) := by decide +kernel
theorem dX9_goMinute_56 : decode cX9_goMinute 56 = .ok (.aload_n 0, 1) := by decide +kernel
theorem dX9_goMinute_57 : decode cX9_goMinute 57 = .ok (.getfield 123, 3) := by decide +kernel
theorem dX9_goMinute_60 : decode cX9_goMinute 60 = .ok (.iload_n 1, 1) := by decide +kernel
theorem dX9_goMinute_61 : decode cX9_goMinute 61 = .ok (.iaload, 1) := by decide +kernel
theorem dX9_goMinute_62 : decode cX9_goMinute 62 = .ok (.iastore, 1) := by decide +kernel
theorem dX9_goMinute_63 : decode cX9_goMinute 63 = .ok (.iinc 1 1, 3) := by decide +kernel
theorem dX9_goMinute_66 : decode cX9_goMinute 66 = .ok (.goto (-23), 3) := by decide +kernel
theorem dX9_goMinute_69 : decode cX9_goMinute 69 = .ok (.aload_n 0, 1) := by decide +kernel
theorem dX9_goMinute_70 : decode cX9_goMinute 70 = .ok (.aload_n 0, 1) := by decide +kernel
theorem dX9_goMinute_71 : decode cX9_goMinute 71 = .ok (.getfield 126, 3) := by decide +kernel
theorem dX9_goMinute_74 : decode cX9_goMinute 74 = .ok (.putfield 22, 3) := by decide +kernel
theorem dX9_goMinute_77 : decode cX9_goMinute 77 = .ok (.aload_n 0, 1) := by decide +kernel
theorem dX9_goMinute_78 : decode cX9_goMinute 78 = .ok (.aload_n 0, 1) := by decide +kernel
theorem dX9_goMinute_79 : decode cX9_goMinute 79 = .ok (.getfield 129, 3) := by decide +kernel
theorem dX9_goMinute_82 : decode cX9_goMinute 82 = .ok (.putfield 25, 3) := by decide +kernel
theorem dX9_goMinute_85 : decode cX9_goMinute 85 = .ok (.aload_n 0, 1) := by decide +kernel
theorem dX9_goMinute_86 : decode cX9_goMinute 86 = .ok (.dup, 1) := by decide +kernel
theorem dX9_goMinute_87 : decode cX9_goMinute 87 = .ok (.getfield 16, 3) := by decide +kernel
theorem dX9_goMinute_90 : decode cX9_goMinute 90 = .ok (.iconst 1, 1) := by decide +kernel
theorem dX9_goMinute_91 : decode cX9_goMinute 91 = .ok (.iadd, 1) := by decide +kernel
theorem dX9_goMinute_92 : decode cX9_goMinute 92 = .ok (.putfield 16, 3) := by decide +kernel
theorem dX9_goMinute_95 : decode cX9_goMinute 95 = .ok (.return_, 1) := by decide +kernel
theorem dX9_goMinutes_0 : decode cX9_goMinutes 0 = .ok (.iconst 0, 1) := by decide +kernel
theorem dX9_goMinutes_1 : decode cX9_goMinutes 1 = .ok (.istore_n 2, 1) := by decide +kernel
theorem dX9_goMinutes_2 : decode cX9_goMinutes 2 = .ok (.iload_n 2, 1) := by decide +kernel
theorem dX9_goMinutes_3 : decode cX9_goMinutes 3 = .ok (.iload_n 1, 1) := by decide +kernel
theorem dX9_goMinutes_4 : decode cX9_goMinutes 4 = .ok (.if_icmp .ge 13, 3) := by decide +kernel
theorem dX9_goMinutes_7 : decode cX9_goMinutes 7 = .ok (.aload_n 0, 1) := by decide +kernel
theorem dX9_goMinutes_8 : decode cX9_goMinutes 8 = .ok (.invokevirtual 415, 3) := by decide +kernel
theorem dX9_goMinutes_11 : decode cX9_goMinutes 11 = .ok (.iinc 2 1, 3) := by decide +kernel
theorem dX9_goMinutes_14 : decode cX9_goMinutes 14 = .ok (.goto (-12), 3) := by decide +kernel
theorem dX9_goMinutes_17 : decode cX9_goMinutes 17 = .ok (.return_, 1) := by decide +kernel
theorem dX9_pass_0 : decode cX9_pass 0 = .ok (.aload_n 0, 1) := by decide +kernel
theorem dX9_pass_1 : decode cX9_pass 1 = .ok (.iload_n 1, 1) := by decide +kernel
theorem dX9_pass_2 : decode cX9_pass 2 = .ok (.iconst 0, 1) := by decide +kernel
theorem dX9_pass_3 : decode cX9_pass 3 = .ok (.bipush 60, 2) := by decide +kernel
theorem dX9_pass_5 : decode cX9_pass 5 = .ok (.invokevirtual 293, 3) := by decide +kernel
theorem dX9_pass_8 : decode cX9_pass 8 = .ok (.ifCond .ne 6, 3) := by decide +kernel
theorem dX9_pass_11 : decode cX9_pass 11 = .ok (.bipush (-2), 2) := by decide +kernel
theorem dX9_pass_13 : decode cX9_pass 13 = .ok (.ireturn, 1) := by decide +kernel
theorem dX9_pass_14 : decode cX9_pass 14 = .ok (.aload_n 0, 1) := by decide +kernel
theorem dX9_pass_15 : decode cX9_pass 15 = .ok (.getfield 16, 3) := by decide +kernel
theorem dX9_pass_18 : decode cX9_pass 18 = .ok (.iload_n 1, 1) := by decide +kernel
theorem dX9_pass_19 : decode cX9_pass 19 = .ok (.iadd, 1) := by decide +kernel
theorem dX9_pass_20 : decode cX9_pass 20 = .ok (.sipush 9999, 3) := by decide +kernel
theorem dX9_pass_23 : decode cX9_pass 23 = .ok (.if_icmp .le 6, 3) := by decide +kernel
theorem dX9_pass_26 : decode cX9_pass 26 = .ok (.bipush (-3), 2) := by decide +kernel
theorem dX9_pass_28 : decode cX9_pass 28 = .ok (.ireturn, 1) := by decide +kernel
theorem dX9_pass_29 : decode cX9_pass 29 = .ok (.aload_n 0, 1) := by decide +kernel
theorem dX9_pass_30 : decode cX9_pass 30 = .ok (.iload_n 1, 1) := by decide +kernel
theorem dX9_pass_31 : decode cX9_pass 31 = .ok (.invokevirtual 418, 3) := by decide +kernel
theorem dX9_pass_34 : decode cX9_pass 34 = .ok (.aload_n 0, 1) := by decide +kernel
theorem dX9_pass_35 : decode cX9_pass 35 = .ok (.getfield 16, 3) := by decide +kernel
theorem dX9_pass_38 : decode cX9_pass 38 = .ok (.ireturn, 1) := by decide +kernel
theorem dX9_save_0 : decode cX9_save 0 = .ok (.aload_n 0, 1) := by decide +kernel
theorem dX9_save_1 : decode cX9_save 1 = .ok (.aload_n 0, 1) := by decide +kernel
theorem dX9_save_2 : decode cX9_save 2 = .ok (.getfield 16, 3) := by decide +kernel
theorem dX9_save_5 : decode cX9_save 5 = .ok (.putfield 132, 3) := by decide +kernel
theorem dX9_save_8 : decode cX9_save 8 = .ok (.aload_n 0, 1) := by decide +kernel
theorem dX9_save_9 : decode cX9_save 9 = .ok (.aload_n 0, 1) := by decide +kernel
theorem dX9_save_10 : decode cX9_save 10 = .ok (.getfield 19, 3) := by decide +kernel
theorem dX9_save_13 : decode cX9_save 13 = .ok (.putfield 135, 3) := by decide +kernel
theorem dX9_save_16 : decode cX9_save 16 = .ok (.aload_n 0, 1) := by decide +kernel
theorem dX9_save_17 : decode cX9_save 17 = .ok (.aload_n 0, 1) := by decide +kernel
theorem dX9_save_18 : decode cX9_save 18 = .ok (.getfield 22, 3) := by decide +kernel
theorem dX9_save_21 : decode cX9_save 21 = .ok (.putfield 138, 3) := by decide +kernel
theorem dX9_save_24 : decode cX9_save 24 = .ok (.aload_n 0, 1) := by decide +kernel
theorem dX9_save_25 : decode cX9_save 25 = .ok (.aload_n 0, 1) := by decide +kernel
theorem dX9_save_26 : decode cX9_save 26 = .ok (.getfield 25, 3) := by decide +kernel
theorem dX9_save_29 : decode cX9_save 29 = .ok (.putfield 141, 3) := by decide +kernel
theorem dX9_save_32 : decode cX9_save 32 = .ok (.aload_n 0, 1) := by decide +kernel
theorem dX9_save_33 : decode cX9_save 33 = .ok (.aload_n 0, 1) := by decide +kernel
theorem dX9_save_34 : decode cX9_save 34 = .ok (.getfield 28, 3) := by decide +kernel
theorem dX9_save_37 : decode cX9_save 37 = .ok (.putfield 144, 3) := by decide +kernel
theorem dX9_save_40 : decode cX9_save 40 = .ok (.aload_n 0, 1) := by decide +kernel
theorem dX9_save_41 : decode cX9_save 41 = .ok (.aload_n 0, 1) := by decide +kernel
theorem dX9_save_42 : decode cX9_save 42 = .ok (.getfield 31, 3) := by decide +kernel
theorem dX9_save_45 : decode cX9_save 45 = .ok (.putfield 147, 3) := by decide +kernel
theorem dX9_save_48 : decode cX9_save 48 = .ok (.iconst 0, 1) := by decide +kernel
theorem dX9_save_49 : decode cX9_save 49 = .ok (.istore_n 1, 1) := by decide +kernel
theorem dX9_save_50 : decode cX9_save 50 = .ok (.iload_n 1, 1) := by decide +kernel
theorem dX9_save_51 : decode cX9_save 51 = .ok (.bipush 6, 2) := by decide +kernel
theorem dX9_save_53 : decode cX9_save 53 = .ok (.if_icmp .ge 45, 3) := by decide +kernel
theorem dX9_save_56 : decode cX9_save 56 = .ok (.aload_n 0, 1) := by decide +kernel
theorem dX9_save_57 : decode cX9_save 57 = .ok (.getfield 150, 3) := by decide +kernel
theorem dX9_save_60 : decode cX9_save 60 = .ok (.iload_n 1, 1) := by decide +kernel
theorem dX9_save_61 : decode cX9_save 61 = .ok (.aload_n 0, 1) := by decide +kernel
theorem dX9_save_62 : decode cX9_save 62 = .ok (.getfield 47, 3) := by decide +kernel
theorem dX9_save_65 : decode cX9_save 65 = .ok (.iload_n 1, 1) := by decide +kernel
theorem dX9_save_66 : decode cX9_save 66 = .ok (.iaload, 1) := by decide +kernel
theorem dX9_save_67 : decode cX9_save 67 = .ok (.iastore, 1) := by decide +kernel
theorem dX9_save_68 : decode cX9_save 68 = .ok (.aload_n 0, 1) := by decide +kernel
theorem dX9_save_69 : decode cX9_save 69 = .ok (.getfield 153, 3) := by decide +kernel
theorem dX9_save_72 : decode cX9_save 72 = .ok (.iload_n 1, 1) := by decide +kernel
theorem dX9_save_73 : decode cX9_save 73 = .ok (.aload_n 0, 1) := by decide +kernel
theorem dX9_save_74 : decode cX9_save 74 = .ok (.getfield 50, 3) := by decide +kernel
theorem dX9_save_77 : decode cX9_save 77 = .ok (.iload_n 1, 1) := by decide +kernel
theorem dX9_save_78 : decode cX9_save 78 = .ok (.iaload, 1) := by decide +kernel
theorem dX9_save_79 : decode cX9_save 79 = .ok (.iastore, 1) := by decide +kernel
theorem dX9_save_80 : decode cX9_save 80 = .ok (.aload_n 0, 1) := by decide +kernel
theorem dX9_save_81 : decode cX9_save 81 = .ok (.getfield 156, 3) := by decide +kernel
theorem dX9_save_84 : decode cX9_save 84 = .ok (.iload_n 1, 1) := by decide +kernel
theorem dX9_save_85 : decode cX9_save 85 = .ok (.aload_n 0, 1) := by decide +kernel
theorem dX9_save_86 : decode cX9_save 86 = .ok (.getfield 56, 3) := by decide +kernel
theorem dX9_save_89 : decode cX9_save 89 = .ok (.iload_n 1, 1) := by decide +kernel
theorem dX9_save_90 : decode cX9_save 90 = .ok (.iaload, 1) := by decide +kernel
theorem dX9_save_91 : decode cX9_save 91 = .ok (.iastore, 1) := by decide +kernel
theorem dX9_save_92 : decode cX9_save 92 = .ok (.iinc 1 1, 3) := by decide +kernel
theorem dX9_save_95 : decode cX9_save 95 = .ok (.goto (-45), 3) := by decide +kernel
theorem dX9_save_98 : decode cX9_save 98 = .ok (.return_, 1) := by decide +kernel
theorem dX9_putBack_0 : decode cX9_putBack 0 = .ok (.aload_n 0, 1) := by decide +kernel
theorem dX9_putBack_1 : decode cX9_putBack 1 = .ok (.aload_n 0, 1) := by decide +kernel
theorem dX9_putBack_2 : decode cX9_putBack 2 = .ok (.getfield 132, 3) := by decide +kernel
theorem dX9_putBack_5 : decode cX9_putBack 5 = .ok (.putfield 16, 3) := by decide +kernel
theorem dX9_putBack_8 : decode cX9_putBack 8 = .ok (.aload_n 0, 1) := by decide +kernel
theorem dX9_putBack_9 : decode cX9_putBack 9 = .ok (.aload_n 0, 1) := by decide +kernel
theorem dX9_putBack_10 : decode cX9_putBack 10 = .ok (.getfield 135, 3) := by decide +kernel
theorem dX9_putBack_13 : decode cX9_putBack 13 = .ok (.putfield 19, 3) := by decide +kernel
theorem dX9_putBack_16 : decode cX9_putBack 16 = .ok (.aload_n 0, 1) := by decide +kernel
theorem dX9_putBack_17 : decode cX9_putBack 17 = .ok (.aload_n 0, 1) := by decide +kernel
theorem dX9_putBack_18 : decode cX9_putBack 18 = .ok (.getfield 138, 3) := by decide +kernel
theorem dX9_putBack_21 : decode cX9_putBack 21 = .ok (.putfield 22, 3) := by decide +kernel
theorem dX9_putBack_24 : decode cX9_putBack 24 = .ok (.aload_n 0, 1) := by decide +kernel
theorem dX9_putBack_25 : decode cX9_putBack 25 = .ok (.aload_n 0, 1) := by decide +kernel
theorem dX9_putBack_26 : decode cX9_putBack 26 = .ok (.getfield 141, 3) := by decide +kernel
theorem dX9_putBack_29 : decode cX9_putBack 29 = .ok (.putfield 25, 3) := by decide +kernel
theorem dX9_putBack_32 : decode cX9_putBack 32 = .ok (.aload_n 0, 1) := by decide +kernel
theorem dX9_putBack_33 : decode cX9_putBack 33 = .ok (.aload_n 0, 1) := by decide +kernel
theorem dX9_putBack_34 : decode cX9_putBack 34 = .ok (.getfield 144, 3) := by decide +kernel
theorem dX9_putBack_37 : decode cX9_putBack 37 = .ok (.putfield 28, 3) := by decide +kernel
theorem dX9_putBack_40 : decode cX9_putBack 40 = .ok (.aload_n 0, 1) := by decide +kernel
theorem dX9_putBack_41 : decode cX9_putBack 41 = .ok (.aload_n 0, 1) := by decide +kernel
theorem dX9_putBack_42 : decode cX9_putBack 42 = .ok (.getfield 147, 3) := by decide +kernel
theorem dX9_putBack_45 : decode cX9_putBack 45 = .ok (.putfield 31, 3) := by decide +kernel
theorem dX9_putBack_48 : decode cX9_putBack 48 = .ok (.aload_n 0, 1) := by decide +kernel
theorem dX9_putBack_49 : decode cX9_putBack 49 = .ok (.iconst (-1), 1) := by decide +kernel
theorem dX9_putBack_50 : decode cX9_putBack 50 = .ok (.putfield 110, 3) := by decide +kernel
theorem dX9_putBack_53 : decode cX9_putBack 53 = .ok (.aload_n 0, 1) := by decide +kernel
theorem dX9_putBack_54 : decode cX9_putBack 54 = .ok (.iconst 0, 1) := by decide +kernel
theorem dX9_putBack_55 : decode cX9_putBack 55 = .ok (.putfield 113, 3) := by decide +kernel
theorem dX9_putBack_58 : decode cX9_putBack 58 = .ok (.aload_n 0, 1) := by decide +kernel
theorem dX9_putBack_59 : decode cX9_putBack 59 = .ok (.iconst (-1), 1) := by decide +kernel
theorem dX9_putBack_60 : decode cX9_putBack 60 = .ok (.putfield 116, 3) := by decide +kernel
theorem dX9_putBack_63 : decode cX9_putBack 63 = .ok (.iconst 0, 1) := by decide +kernel
theorem dX9_putBack_64 : decode cX9_putBack 64 = .ok (.istore_n 1, 1) := by decide +kernel
theorem dX9_putBack_65 : decode cX9_putBack 65 = .ok (.iload_n 1, 1) := by decide +kernel
theorem dX9_putBack_66 : decode cX9_putBack 66 = .ok (.bipush 6, 2) := by decide +kernel
theorem dX9_putBack_68 : decode cX9_putBack 68 = .ok (.if_icmp .ge 45, 3) := by decide +kernel
theorem dX9_putBack_71 : decode cX9_putBack 71 = .ok (.aload_n 0, 1) := by decide +kernel
theorem dX9_putBack_72 : decode cX9_putBack 72 = .ok (.getfield 47, 3) := by decide +kernel
theorem dX9_putBack_75 : decode cX9_putBack 75 = .ok (.iload_n 1, 1) := by decide +kernel
theorem dX9_putBack_76 : decode cX9_putBack 76 = .ok (.aload_n 0, 1) := by decide +kernel
theorem dX9_putBack_77 : decode cX9_putBack 77 = .ok (.getfield 150, 3) := by decide +kernel
theorem dX9_putBack_80 : decode cX9_putBack 80 = .ok (.iload_n 1, 1) := by decide +kernel
theorem dX9_putBack_81 : decode cX9_putBack 81 = .ok (.iaload, 1) := by decide +kernel
theorem dX9_putBack_82 : decode cX9_putBack 82 = .ok (.iastore, 1) := by decide +kernel
theorem dX9_putBack_83 : decode cX9_putBack 83 = .ok (.aload_n 0, 1) := by decide +kernel
theorem dX9_putBack_84 : decode cX9_putBack 84 = .ok (.getfield 50, 3) := by decide +kernel
theorem dX9_putBack_87 : decode cX9_putBack 87 = .ok (.iload_n 1, 1) := by decide +kernel
theorem dX9_putBack_88 : decode cX9_putBack 88 = .ok (.aload_n 0, 1) := by decide +kernel
theorem dX9_putBack_89 : decode cX9_putBack 89 = .ok (.getfield 153, 3) := by decide +kernel
theorem dX9_putBack_92 : decode cX9_putBack 92 = .ok (.iload_n 1, 1) := by decide +kernel
theorem dX9_putBack_93 : decode cX9_putBack 93 = .ok (.iaload, 1) := by decide +kernel
theorem dX9_putBack_94 : decode cX9_putBack 94 = .ok (.iastore, 1) := by decide +kernel
theorem dX9_putBack_95 : decode cX9_putBack 95 = .ok (.aload_n 0, 1) := by decide +kernel
theorem dX9_putBack_96 : decode cX9_putBack 96 = .ok (.getfield 56, 3) := by decide +kernel
theorem dX9_putBack_99 : decode cX9_putBack 99 = .ok (.iload_n 1, 1) := by decide +kernel
theorem dX9_putBack_100 : decode cX9_putBack 100 = .ok (.aload_n 0, 1) := by decide +kernel
theorem dX9_putBack_101 : decode cX9_putBack 101 = .ok (.getfield 156, 3) := by decide +kernel
theorem dX9_putBack_104 : decode cX9_putBack 104 = .ok (.iload_n 1, 1) := by decide +kernel
theorem dX9_putBack_105 : decode cX9_putBack 105 = .ok (.iaload, 1) := by decide +kernel
theorem dX9_putBack_106 : decode cX9_putBack 106 = .ok (.iastore, 1) := by decide +kernel
theorem dX9_putBack_107 : decode cX9_putBack 107 = .ok (.iinc 1 1, 3) := by decide +kernel
theorem dX9_putBack_110 : decode cX9_putBack 110 = .ok (.goto (-45), 3) := by decide +kernel
theorem dX9_putBack_113 : decode cX9_putBack 113 = .ok (.return_, 1) := by decide +kernel
theorem dX9_on_0 : decode cX9_on 0 = .ok (.aload_n 0, 1) := by decide +kernel
theorem dX9_on_1 : decode cX9_on 1 = .ok (.iload_n 2, 1) := by decide +kernel
theorem dX9_on_2 : decode cX9_on 2 = .ok (.iconst 0, 1) := by decide +kernel
theorem dX9_on_3 : decode cX9_on 3 = .ok (.iconst 2, 1) := by decide +kernel
theorem dX9_on_4 : decode cX9_on 4 = .ok (.invokevirtual 293, 3) := by decide +kernel
theorem dX9_on_7 : decode cX9_on 7 = .ok (.ifCond .ne 39, 3) := by decide +kernel
theorem dX9_on_10 : decode cX9_on 10 = .ok (.aload_n 0, 1) := by decide +kernel
theorem dX9_on_11 : decode cX9_on 11 = .ok (.iload_n 2, 1) := by decide +kernel
theorem dX9_on_12 : decode cX9_on 12 = .ok (.bipush 10, 2) := by decide +kernel
theorem dX9_on_14 : decode cX9_on 14 = .ok (.bipush 9, 2) := by decide +kernel
theorem dX9_on_16 : decode cX9_on 16 = .ok (.aload_n 0, 1) := by decide +kernel
theorem dX9_on_17 : decode cX9_on 17 = .ok (.getfield 13, 3) := by decide +kernel
theorem dX9_on_20 : decode cX9_on 20 = .ok (.iadd, 1) := by decide +kernel
theorem dX9_on_21 : decode cX9_on 21 = .ok (.invokevirtual 293, 3) := by decide +kernel
theorem dX9_on_24 : decode cX9_on 24 = .ok (.ifCond .ne 22, 3) := by decide +kernel
theorem dX9_on_27 : decode cX9_on 27 = .ok (.aload_n 0, 1) := by decide +kernel
theorem dX9_on_28 : decode cX9_on 28 = .ok (.iload_n 2, 1) := by decide +kernel
theorem dX9_on_29 : decode cX9_on 29 = .ok (.bipush 20, 2) := by decide +kernel
theorem dX9_on_31 : decode cX9_on 31 = .ok (.bipush 19, 2) := by decide +kernel
theorem dX9_on_33 : decode cX9_on 33 = .ok (.aload_n 0, 1) := by decide +kernel
theorem dX9_on_34 : decode cX9_on 34 = .ok (.getfield 13, 3) := by decide +kernel
theorem dX9_on_37 : decode cX9_on 37 = .ok (.iadd, 1) := by decide +kernel
theorem dX9_on_38 : decode cX9_on 38 = .ok (.invokevirtual 293, 3) := by decide +kernel
theorem dX9_on_41 : decode cX9_on 41 = .ok (.ifCond .ne 5, 3) := by decide +kernel
theorem dX9_on_44 : decode cX9_on 44 = .ok (.iconst (-1), 1) := by decide +kernel
theorem dX9_on_45 : decode cX9_on 45 = .ok (.ireturn, 1) := by decide +kernel
theorem dX9_on_46 : decode cX9_on 46 = .ok (.aload_n 0, 1) := by decide +kernel
theorem dX9_on_47 : decode cX9_on 47 = .ok (.iload_n 1, 1) := by decide +kernel
theorem dX9_on_48 : decode cX9_on 48 = .ok (.invokevirtual 421, 3) := by decide +kernel
theorem dX9_on_51 : decode cX9_on 51 = .ok (.ifCond .ne 6, 3) := by decide +kernel
theorem dX9_on_54 : decode cX9_on 54 = .ok (.bipush (-2), 2) := by decide +kernel
theorem dX9_on_56 : decode cX9_on 56 = .ok (.ireturn, 1) := by decide +kernel
theorem dX9_on_57 : decode cX9_on 57 = .ok (.aload_n 0, 1) := by decide +kernel
theorem dX9_on_58 : decode cX9_on 58 = .ok (.invokevirtual 424, 3) := by decide +kernel
theorem dX9_on_61 : decode cX9_on 61 = .ok (.aload_n 0, 1) := by decide +kernel
theorem dX9_on_62 : decode cX9_on 62 = .ok (.iload_n 1, 1) := by decide +kernel
theorem dX9_on_63 : decode cX9_on 63 = .ok (.invokevirtual 418, 3) := by decide +kernel
theorem dX9_on_66 : decode cX9_on 66 = .ok (.iload_n 2, 1) := by decide +kernel
theorem dX9_on_67 : decode cX9_on 67 = .ok (.ifCond .ne 10, 3) := by decide +kernel
theorem dX9_on_70 : decode cX9_on 70 = .ok (.aload_n 0, 1) := by decide +kernel
theorem dX9_on_71 : decode cX9_on 71 = .ok (.getfield 25, 3) := by decide +kernel
theorem dX9_on_74 : decode cX9_on 74 = .ok (.goto 54, 3) := by decide +kernel
theorem dX9_on_77 : decode cX9_on 77 = .ok (.iload_n 2, 1) := by decide +kernel
theorem dX9_on_78 : decode cX9_on 78 = .ok (.iconst 1, 1) := by decide +kernel
theorem dX9_on_79 : decode cX9_on 79 = .ok (.if_icmp .ne 10, 3) := by decide +kernel
theorem dX9_on_82 : decode cX9_on 82 = .ok (.aload_n 0, 1) := by decide +kernel
theorem dX9_on_83 : decode cX9_on 83 = .ok (.getfield 19, 3) := by decide +kernel
theorem dX9_on_86 : decode cX9_on 86 = .ok (.goto 42, 3) := by decide +kernel
theorem dX9_on_89 : decode cX9_on 89 = .ok (.iload_n 2, 1) := by decide +kernel
theorem dX9_on_90 : decode cX9_on 90 = .ok (.iconst 2, 1) := by decide +kernel
theorem dX9_on_91 : decode cX9_on 91 = .ok (.if_icmp .ne 10, 3) := by decide +kernel
theorem dX9_on_94 : decode cX9_on 94 = .ok (.aload_n 0, 1) := by decide +kernel
theorem dX9_on_95 : decode cX9_on 95 = .ok (.getfield 28, 3) := by decide +kernel
theorem dX9_on_98 : decode cX9_on 98 = .ok (.goto 30, 3) := by decide +kernel
theorem dX9_on_101 : decode cX9_on 101 = .ok (.iload_n 2, 1) := by decide +kernel
theorem dX9_on_102 : decode cX9_on 102 = .ok (.bipush 20, 2) := by decide +kernel
theorem dX9_on_104 : decode cX9_on 104 = .ok (.if_icmp .ge 15, 3) := by decide +kernel
theorem dX9_on_107 : decode cX9_on 107 = .ok (.aload_n 0, 1) := by decide +kernel
theorem dX9_on_108 : decode cX9_on 108 = .ok (.getfield 47, 3) := by decide +kernel
theorem dX9_on_111 : decode cX9_on 111 = .ok (.iload_n 2, 1) := by decide +kernel
theorem dX9_on_112 : decode cX9_on 112 = .ok (.bipush 10, 2) := by decide +kernel
theorem dX9_on_114 : decode cX9_on 114 = .ok (.isub, 1) := by decide +kernel
theorem dX9_on_115 : decode cX9_on 115 = .ok (.iaload, 1) := by decide +kernel
theorem dX9_on_116 : decode cX9_on 116 = .ok (.goto 12, 3) := by decide +kernel
theorem dX9_on_119 : decode cX9_on 119 = .ok (.aload_n 0, 1) := by decide +kernel
theorem dX9_on_120 : decode cX9_on 120 = .ok (.getfield 50, 3) := by decide +kernel
theorem dX9_on_123 : decode cX9_on 123 = .ok (.iload_n 2, 1) := by decide +kernel
theorem dX9_on_124 : decode cX9_on 124 = .ok (.bipush 20, 2) := by decide +kernel
theorem dX9_on_126 : decode cX9_on 126 = .ok (.isub, 1) := by decide +kernel
theorem dX9_on_127 : decode cX9_on 127 = .ok (.iaload, 1) := by decide +kernel
theorem dX9_on_128 : decode cX9_on 128 = .ok (.istore_n 3, 1) := by decide +kernel
theorem dX9_on_129 : decode cX9_on 129 = .ok (.aload_n 0, 1) := by decide +kernel
theorem dX9_on_130 : decode cX9_on 130 = .ok (.invokevirtual 427, 3) := by decide +kernel
theorem dX9_on_133 : decode cX9_on 133 = .ok (.iload_n 3, 1) := by decide +kernel
theorem dX9_on_134 : decode cX9_on 134 = .ok (.ireturn, 1) := by decide +kernel
theorem dX9_all_0 : decode cX9_all 0 = .ok (.iconst 1, 1) := by decide +kernel
theorem dX9_all_1 : decode cX9_all 1 = .ok (.aload_n 0, 1) := by decide +kernel
theorem dX9_all_2 : decode cX9_all 2 = .ok (.getfield 13, 3) := by decide +kernel
theorem dX9_all_5 : decode cX9_all 5 = .ok (.ishl, 1) := by decide +kernel
theorem dX9_all_6 : decode cX9_all 6 = .ok (.iconst 1, 1) := by decide +kernel
theorem dX9_all_7 : decode cX9_all 7 = .ok (.isub, 1) := by decide +kernel
theorem dX9_all_8 : decode cX9_all 8 = .ok (.ireturn, 1) := by decide +kernel
theorem dX9_clear_0 : decode cX9_clear 0 = .ok (.aload_n 0, 1) := by decide +kernel
theorem dX9_clear_1 : decode cX9_clear 1 = .ok (.invokevirtual 424, 3) := by decide +kernel
theorem dX9_clear_4 : decode cX9_clear 4 = .ok (.iconst 0, 1) := by decide +kernel
theorem dX9_clear_5 : decode cX9_clear 5 = .ok (.istore_n 1, 1) := by decide +kernel
theorem dX9_clear_6 : decode cX9_clear 6 = .ok (.iload_n 1, 1) := by decide +kernel
theorem dX9_clear_7 : decode cX9_clear 7 = .ok (.bipush 100, 2) := by decide +kernel
theorem dX9_clear_9 : decode cX9_clear 9 = .ok (.if_icmp .ge 24, 3) := by decide +kernel
theorem dX9_clear_12 : decode cX9_clear 12 = .ok (.aload_n 0, 1) := by decide +kernel
theorem dX9_clear_13 : decode cX9_clear 13 = .ok (.getfield 25, 3) := by decide +kernel
theorem dX9_clear_16 : decode cX9_clear 16 = .ok (.aload_n 0, 1) := by decide +kernel
theorem dX9_clear_17 : decode cX9_clear 17 = .ok (.invokevirtual 430, 3) := by decide +kernel
theorem dX9_clear_20 : decode cX9_clear 20 = .ok (.if_icmp .eq 13, 3) := by decide +kernel
theorem dX9_clear_23 : decode cX9_clear 23 = .ok (.aload_n 0, 1) := by decide +kernel
theorem dX9_clear_24 : decode cX9_clear 24 = .ok (.invokevirtual 415, 3) := by decide +kernel
theorem dX9_clear_27 : decode cX9_clear 27 = .ok (.iinc 1 1, 3) := by decide +kernel
theorem dX9_clear_30 : decode cX9_clear 30 = .ok (.goto (-24), 3) := by decide +kernel
theorem dX9_clear_33 : decode cX9_clear 33 = .ok (.aload_n 0, 1) := by decide +kernel
theorem dX9_clear_34 : decode cX9_clear 34 = .ok (.invokevirtual 427, 3) := by decide +kernel
theorem dX9_clear_37 : decode cX9_clear 37 = .ok (.iload_n 1, 1) := by decide +kernel
theorem dX9_clear_38 : decode cX9_clear 38 = .ok (.bipush 100, 2) := by decide +kernel
theorem dX9_clear_40 : decode cX9_clear 40 = .ok (.if_icmp .ge 7, 3) := by decide +kernel
theorem dX9_clear_43 : decode cX9_clear 43 = .ok (.iload_n 1, 1) := by decide +kernel
theorem dX9_clear_44 : decode cX9_clear 44 = .ok (.goto 5, 3) := by decide +kernel
theorem dX9_clear_47 : decode cX9_clear 47 = .ok (.bipush (-5), 2) := by decide +kernel
theorem dX9_clear_49 : decode cX9_clear 49 = .ok (.ireturn, 1) := by decide +kernel
theorem dX9_stay_0 : decode cX9_stay 0 = .ok (.aload_n 0, 1) := by decide +kernel
theorem dX9_stay_1 : decode cX9_stay 1 = .ok (.invokevirtual 430, 3) := by decide +kernel
theorem dX9_stay_4 : decode cX9_stay 4 = .ok (.aload_n 0, 1) := by decide +kernel
theorem dX9_stay_5 : decode cX9_stay 5 = .ok (.bipush 99, 2) := by decide +kernel
theorem dX9_stay_7 : decode cX9_stay 7 = .ok (.iconst 0, 1) := by decide +kernel
theorem dX9_stay_8 : decode cX9_stay 8 = .ok (.invokevirtual 433, 3) := by decide +kernel
theorem dX9_stay_11 : decode cX9_stay 11 = .ok (.iconst (-1), 1) := by decide +kernel
theorem dX9_stay_12 : decode cX9_stay 12 = .ok (.ixor, 1) := by decide +kernel
theorem dX9_stay_13 : decode cX9_stay 13 = .ok (.iand, 1) := by decide +kernel
theorem dX9_stay_14 : decode cX9_stay 14 = .ok (.ireturn, 1) := by decide +kernel
theorem dX9_leftThen_0 : decode cX9_leftThen 0 = .ok (.aload_n 0, 1) := by decide +kernel
theorem dX9_leftThen_1 : decode cX9_leftThen 1 = .ok (.bipush 60, 2) := by decide +kernel
theorem dX9_leftThen_3 : decode cX9_leftThen 3 = .ok (.invokevirtual 418, 3) := by decide +kernel
theorem dX9_leftThen_6 : decode cX9_leftThen 6 = .ok (.aload_n 0, 1) := by decide +kernel
theorem dX9_leftThen_7 : decode cX9_leftThen 7 = .ok (.getfield 13, 3) := by decide +kernel
theorem dX9_leftThen_10 : decode cX9_leftThen 10 = .ok (.aload_n 0, 1) := by decide +kernel
theorem dX9_leftThen_11 : decode cX9_leftThen 11 = .ok (.aload_n 0, 1) := by decide +kernel
theorem dX9_leftThen_12 : decode cX9_leftThen 12 = .ok (.getfield 25, 3) := by decide +kernel
theorem dX9_leftThen_15 : decode cX9_leftThen 15 = .ok (.invokevirtual 375, 3) := by decide +kernel
theorem dX9_leftThen_18 : decode cX9_leftThen 18 = .ok (.isub, 1) := by decide +kernel
theorem dX9_leftThen_19 : decode cX9_leftThen 19 = .ok (.istore_n 1, 1) := by decide +kernel
theorem dX9_leftThen_20 : decode cX9_leftThen 20 = .ok (.aload_n 0, 1) := by decide +kernel
theorem dX9_leftThen_21 : decode cX9_leftThen 21 = .ok (.invokevirtual 427, 3) := by decide +kernel
theorem dX9_leftThen_24 : decode cX9_leftThen 24 = .ok (.iload_n 1, 1) := by decide +kernel
theorem dX9_leftThen_25 : decode cX9_leftThen 25 = .ok (.ireturn, 1) := by decide +kernel
theorem dX9_left_0 : decode cX9_left 0 = .ok (.aload_n 0, 1) := by decide +kernel
theorem dX9_left_1 : decode cX9_left 1 = .ok (.invokevirtual 424, 3) := by decide +kernel
theorem dX9_left_4 : decode cX9_left 4 = .ok (.aload_n 0, 1) := by decide +kernel
theorem dX9_left_5 : decode cX9_left 5 = .ok (.invokevirtual 436, 3) := by decide +kernel
theorem dX9_left_8 : decode cX9_left 8 = .ok (.ireturn, 1) := by decide +kernel
theorem dX9_firstOf_0 : decode cX9_firstOf 0 = .ok (.bipush (-5), 2) := by decide +kernel
theorem dX9_firstOf_2 : decode cX9_firstOf 2 = .ok (.istore_n 1, 1) := by decide +kernel
theorem dX9_firstOf_3 : decode cX9_firstOf 3 = .ok (.iconst 0, 1) := by decide +kernel
theorem dX9_firstOf_4 : decode cX9_firstOf 4 = .ok (.istore_n 2, 1) := by decide +kernel
theorem dX9_firstOf_5 : decode cX9_firstOf 5 = .ok (.iconst 0, 1) := by decide +kernel
theorem dX9_firstOf_6 : decode cX9_firstOf 6 = .ok (.istore_n 3, 1) := by decide +kernel
theorem dX9_firstOf_7 : decode cX9_firstOf 7 = .ok (.iload_n 3, 1) := by decide +kernel
theorem dX9_firstOf_8 : decode cX9_firstOf 8 = .ok (.aload_n 0, 1) := by decide +kernel
theorem dX9_firstOf_9 : decode cX9_firstOf 9 = .ok (.getfield 34, 3) := by decide +kernel
theorem dX9_firstOf_12 : decode cX9_firstOf 12 = .ok (.if_icmp .ge 81, 3) := by decide +kernel
theorem dX9_firstOf_15 : decode cX9_firstOf 15 = .ok (.aload_n 0, 1) := by decide +kernel
theorem dX9_firstOf_16 : decode cX9_firstOf 16 = .ok (.invokevirtual 424, 3) := by decide +kernel
theorem dX9_firstOf_19 : decode cX9_firstOf 19 = .ok (.iconst 0, 1) := by decide +kernel
theorem dX9_firstOf_20 : decode cX9_firstOf 20 = .ok (.istore 4, 2) := by decide +kernel
theorem dX9_firstOf_22 : decode cX9_firstOf 22 = .ok (.iload 4, 2) := by decide +kernel
theorem dX9_firstOf_24 : decode cX9_firstOf 24 = .ok (.aload_n 0, 1) := by decide +kernel
theorem dX9_firstOf_25 : decode cX9_firstOf 25 = .ok (.getfield 34, 3) := by decide +kernel
theorem dX9_firstOf_28 : decode cX9_firstOf 28 = .ok (.if_icmp .ge 30, 3) := by decide +kernel
theorem dX9_firstOf_31 : decode cX9_firstOf 31 = .ok (.aload_n 0, 1) := by decide +kernel
theorem dX9_firstOf_32 : decode cX9_firstOf 32 = .ok (.getfield 56, 3) := by decide +kernel
theorem dX9_firstOf_35 : decode cX9_firstOf 35 = .ok (.iload 4, 2) := by decide +kernel
theorem dX9_firstOf_37 : decode cX9_firstOf 37 = .ok (.aload_n 0, 1) := by decide +kernel
theorem dX9_firstOf_38 : decode cX9_firstOf 38 = .ok (.getfield 156, 3) := by decide +kernel
theorem dX9_firstOf_41 : decode cX9_firstOf 41 = .ok (.iload 4, 2) := by decide +kernel
theorem dX9_firstOf_43 : decode cX9_firstOf 43 = .ok (.iload_n 3, 1) := by decide +kernel
theorem dX9_firstOf_44 : decode cX9_firstOf 44 = .ok (.iadd, 1) := by decide +kernel
theorem dX9_firstOf_45 : decode cX9_firstOf 45 = .ok (.aload_n 0, 1) := by decide +kernel
theorem dX9_firstOf_46 : decode cX9_firstOf 46 = .ok (.getfield 34, 3) := by decide +kernel
theorem dX9_firstOf_49 : decode cX9_firstOf 49 = .ok (.irem, 1) := by decide +kernel
theorem dX9_firstOf_50 : decode cX9_firstOf 50 = .ok (.iaload, 1) := by decide +kernel
theorem dX9_firstOf_51 : decode cX9_firstOf 51 = .ok (.iastore, 1) := by decide +kernel
theorem dX9_firstOf_52 : decode cX9_firstOf 52 = .ok (.iinc 4 1, 3) := by decide +kernel
theorem dX9_firstOf_55 : decode cX9_firstOf 55 = .ok (.goto (-33), 3) := by decide +kernel
theorem dX9_firstOf_58 : decode cX9_firstOf 58 = .ok (.aload_n 0, 1) := by decide +kernel
theorem dX9_firstOf_59 : decode cX9_firstOf 59 = .ok (.iconst 0, 1) := by decide +kernel
theorem dX9_firstOf_60 : decode cX9_firstOf 60 = .ok (.putfield 31, 3) := by decide +kernel
theorem dX9_firstOf_63 : decode cX9_firstOf 63 = .ok (.aload_n 0, 1) := by decide +kernel
theorem dX9_firstOf_64 : decode cX9_firstOf 64 = .ok (.invokevirtual 436, 3) := by decide +kernel
theorem dX9_firstOf_67 : decode cX9_firstOf 67 = .ok (.istore 4, 2) := by decide +kernel
theorem dX9_firstOf_69 : decode cX9_firstOf 69 = .ok (.iload_n 1, 1) := by decide +kernel
theorem dX9_firstOf_70 : decode cX9_firstOf 70 = .ok (.ifCond .lt 12, 3) := by decide +kernel
theorem dX9_firstOf_73 : decode cX9_firstOf 73 = .ok (.iload 4, 2) := by decide +kernel
theorem dX9_firstOf_75 : decode cX9_firstOf 75 = .ok (.iload_n 2, 1) := by decide +kernel
theorem dX9_firstOf_76 : decode cX9_firstOf 76 = .ok (.if_icmp .lt 6, 3) := by decide +kernel
theorem dX9_firstOf_79 : decode cX9_firstOf 79 = .ok (.goto 8, 3) := by decide +kernel
theorem dX9_firstOf_82 : decode cX9_firstOf 82 = .ok (.iload_n 3, 1) := by decide +kernel
theorem dX9_firstOf_83 : decode cX9_firstOf 83 = .ok (.istore_n 1, 1) := by decide +kernel
theorem dX9_firstOf_84 : decode cX9_firstOf 84 = .ok (.iload 4, 2) := by decide +kernel
theorem dX9_firstOf_86 : decode cX9_firstOf 86 = .ok (.istore_n 2, 1) := by decide +kernel
theorem dX9_firstOf_87 : decode cX9_firstOf 87 = .ok (.iinc 3 1, 3) := by decide +kernel
theorem dX9_firstOf_90 : decode cX9_firstOf 90 = .ok (.goto (-83), 3) := by decide +kernel
theorem dX9_firstOf_93 : decode cX9_firstOf 93 = .ok (.iload_n 1, 1) := by decide +kernel
theorem dX9_firstOf_94 : decode cX9_firstOf 94 = .ok (.ireturn, 1) := by decide +kernel
theorem dX9_swapOf_0 : decode cX9_swapOf 0 = .ok (.bipush (-5), 2) := by decide +kernel
theorem dX9_swapOf_2 : decode cX9_swapOf 2 = .ok (.istore_n 1, 1) := by decide +kernel
theorem dX9_swapOf_3 : decode cX9_swapOf 3 = .ok (.aload_n 0, 1) := by decide +kernel
theorem dX9_swapOf_4 : decode cX9_swapOf 4 = .ok (.invokevirtual 439, 3) := by decide +kernel
theorem dX9_swapOf_7 : decode cX9_swapOf 7 = .ok (.istore_n 2, 1) := by decide +kernel
theorem dX9_swapOf_8 : decode cX9_swapOf 8 = .ok (.iconst 0, 1) := by decide +kernel
theorem dX9_swapOf_9 : decode cX9_swapOf 9 = .ok (.istore_n 3, 1) := by decide +kernel
theorem dX9_swapOf_10 : decode cX9_swapOf 10 = .ok (.iload_n 3, 1) := by decide +kernel
theorem dX9_swapOf_11 : decode cX9_swapOf 11 = .ok (.aload_n 0, 1) := by decide +kernel
theorem dX9_swapOf_12 : decode cX9_swapOf 12 = .ok (.getfield 34, 3) := by decide +kernel
theorem dX9_swapOf_15 : decode cX9_swapOf 15 = .ok (.if_icmp .ge 85, 3) := by decide +kernel
theorem dX9_swapOf_18 : decode cX9_swapOf 18 = .ok (.iload_n 3, 1) := by decide +kernel
theorem dX9_swapOf_19 : decode cX9_swapOf 19 = .ok (.iconst 1, 1) := by decide +kernel
theorem dX9_swapOf_20 : decode cX9_swapOf 20 = .ok (.iadd, 1) := by decide +kernel
theorem dX9_swapOf_21 : decode cX9_swapOf 21 = .ok (.istore 4, 2) := by decide +kernel
theorem dX9_swapOf_23 : decode cX9_swapOf 23 = .ok (.iload 4, 2) := by decide +kernel
theorem dX9_swapOf_25 : decode cX9_swapOf 25 = .ok (.aload_n 0, 1) := by decide +kernel
theorem dX9_swapOf_26 : decode cX9_swapOf 26 = .ok (.getfield 34, 3) := by decide +kernel
theorem dX9_swapOf_29 : decode cX9_swapOf 29 = .ok (.if_icmp .ge 65, 3) := by decide +kernel
theorem dX9_swapOf_32 : decode cX9_swapOf 32 = .ok (.aload_n 0, 1) := by decide +kernel
theorem dX9_swapOf_33 : decode cX9_swapOf 33 = .ok (.invokevirtual 424, 3) := by decide +kernel
theorem dX9_swapOf_36 : decode cX9_swapOf 36 = .ok (.aload_n 0, 1) := by decide +kernel
theorem dX9_swapOf_37 : decode cX9_swapOf 37 = .ok (.getfield 56, 3) := by decide +kernel
theorem dX9_swapOf_40 : decode cX9_swapOf 40 = .ok (.iload_n 3, 1) := by decide +kernel
theorem dX9_swapOf_41 : decode cX9_swapOf 41 = .ok (.aload_n 0, 1) := by decide +kernel
theorem dX9_swapOf_42 : decode cX9_swapOf 42 = .ok (.getfield 156, 3) := by decide +kernel
theorem dX9_swapOf_45 : decode cX9_swapOf 45 = .ok (.iload 4, 2) := by decide +kernel
theorem dX9_swapOf_47 : decode cX9_swapOf 47 = .ok (.iaload, 1) := by decide +kernel
theorem dX9_swapOf_48 : decode cX9_swapOf 48 = .ok (.iastore, 1) := by decide +kernel
theorem dX9_swapOf_49 : decode cX9_swapOf 49 = .ok (.aload_n 0, 1) := by decide +kernel
theorem dX9_swapOf_50 : decode cX9_swapOf 50 = .ok (.getfield 56, 3) := by decide +kernel
theorem dX9_swapOf_53 : decode cX9_swapOf 53 = .ok (.iload 4, 2) := by decide +kernel
theorem dX9_swapOf_55 : decode cX9_swapOf 55 = .ok (.aload_n 0, 1) := by decide +kernel
theorem dX9_swapOf_56 : decode cX9_swapOf 56 = .ok (.getfield 156, 3) := by decide +kernel
theorem dX9_swapOf_59 : decode cX9_swapOf 59 = .ok (.iload_n 3, 1) := by decide +kernel
theorem dX9_swapOf_60 : decode cX9_swapOf 60 = .ok (.iaload, 1) := by decide +kernel
theorem dX9_swapOf_61 : decode cX9_swapOf 61 = .ok (.iastore, 1) := by decide +kernel
theorem dX9_swapOf_62 : decode cX9_swapOf 62 = .ok (.aload_n 0, 1) := by decide +kernel
theorem dX9_swapOf_63 : decode cX9_swapOf 63 = .ok (.invokevirtual 436, 3) := by decide +kernel
theorem dX9_swapOf_66 : decode cX9_swapOf 66 = .ok (.istore 5, 2) := by decide +kernel
theorem dX9_swapOf_68 : decode cX9_swapOf 68 = .ok (.iload 5, 2) := by decide +kernel
theorem dX9_swapOf_70 : decode cX9_swapOf 70 = .ok (.iload_n 2, 1) := by decide +kernel
theorem dX9_swapOf_71 : decode cX9_swapOf 71 = .ok (.if_icmp .lt 6, 3) := by decide +kernel
theorem dX9_swapOf_74 : decode cX9_swapOf 74 = .ok (.goto 14, 3) := by decide +kernel
theorem dX9_swapOf_77 : decode cX9_swapOf 77 = .ok (.bipush 10, 2) := by decide +kernel
theorem dX9_swapOf_79 : decode cX9_swapOf 79 = .ok (.iload_n 3, 1) := by decide +kernel
theorem dX9_swapOf_80 : decode cX9_swapOf 80 = .ok (.imul, 1) := by decide +kernel
theorem dX9_swapOf_81 : decode cX9_swapOf 81 = .ok (.iload 4, 2) := by decide +kernel
theorem dX9_swapOf_83 : decode cX9_swapOf 83 = .ok (.iadd, 1) := by decide +kernel
theorem dX9_swapOf_84 : decode cX9_swapOf 84 = .ok (.istore_n 1, 1) := by decide +kernel
theorem dX9_swapOf_85 : decode cX9_swapOf 85 = .ok (.iload 5, 2) := by decide +kernel
theorem dX9_swapOf_87 : decode cX9_swapOf 87 = .ok (.istore_n 2, 1) := by decide +kernel
theorem dX9_swapOf_88 : decode cX9_swapOf 88 = .ok (.iinc 4 1, 3) := by decide +kernel
theorem dX9_swapOf_91 : decode cX9_swapOf 91 = .ok (.goto (-68), 3) := by decide +kernel
theorem dX9_swapOf_94 : decode cX9_swapOf 94 = .ok (.iinc 3 1, 3) := by decide +kernel
theorem dX9_swapOf_97 : decode cX9_swapOf 97 = .ok (.goto (-87), 3) := by decide +kernel
theorem dX9_swapOf_100 : decode cX9_swapOf 100 = .ok (.iload_n 1, 1) := by decide +kernel
theorem dX9_swapOf_101 : decode cX9_swapOf 101 = .ok (.ireturn, 1) := by decide +kernel
theorem dX9_quickOf_0 : decode cX9_quickOf 0 = .ok (.iconst 0, 1) := by decide +kernel
theorem dX9_quickOf_1 : decode cX9_quickOf 1 = .ok (.istore_n 1, 1) := by decide +kernel
theorem dX9_quickOf_2 : decode cX9_quickOf 2 = .ok (.bipush 7, 2) := by decide +kernel
theorem dX9_quickOf_4 : decode cX9_quickOf 4 = .ok (.istore_n 2, 1) := by decide +kernel
theorem dX9_quickOf_5 : decode cX9_quickOf 5 = .ok (.iconst 1, 1) := by decide +kernel
theorem dX9_quickOf_6 : decode cX9_quickOf 6 = .ok (.istore_n 3, 1) := by decide +kernel
theorem dX9_quickOf_7 : decode cX9_quickOf 7 = .ok (.iload_n 3, 1) := by decide +kernel
theorem dX9_quickOf_8 : decode cX9_quickOf 8 = .ok (.bipush 10, 2) := by decide +kernel
theorem dX9_quickOf_10 : decode cX9_quickOf 10 = .ok (.if_icmp .ge 38, 3) := by decide +kernel
theorem dX9_quickOf_13 : decode cX9_quickOf 13 = .ok (.aload_n 0, 1) := by decide +kernel
theorem dX9_quickOf_14 : decode cX9_quickOf 14 = .ok (.invokevirtual 424, 3) := by decide +kernel
theorem dX9_quickOf_17 : decode cX9_quickOf 17 = .ok (.aload_n 0, 1) := by decide +kernel
theorem dX9_quickOf_18 : decode cX9_quickOf 18 = .ok (.iload_n 3, 1) := by decide +kernel
theorem dX9_quickOf_19 : decode cX9_quickOf 19 = .ok (.putfield 110, 3) := by decide +kernel
theorem dX9_quickOf_22 : decode cX9_quickOf 22 = .ok (.aload_n 0, 1) := by decide +kernel
theorem dX9_quickOf_23 : decode cX9_quickOf 23 = .ok (.invokevirtual 436, 3) := by decide +kernel
theorem dX9_quickOf_26 : decode cX9_quickOf 26 = .ok (.istore 4, 2) := by decide +kernel
theorem dX9_quickOf_28 : decode cX9_quickOf 28 = .ok (.iload 4, 2) := by decide +kernel
theorem dX9_quickOf_30 : decode cX9_quickOf 30 = .ok (.iload_n 2, 1) := by decide +kernel
theorem dX9_quickOf_31 : decode cX9_quickOf 31 = .ok (.if_icmp .lt 6, 3) := by decide +kernel
theorem dX9_quickOf_34 : decode cX9_quickOf 34 = .ok (.goto 8, 3) := by decide +kernel
theorem dX9_quickOf_37 : decode cX9_quickOf 37 = .ok (.iload_n 3, 1) := by decide +kernel
theorem dX9_quickOf_38 : decode cX9_quickOf 38 = .ok (.istore_n 1, 1) := by decide +kernel
theorem dX9_quickOf_39 : decode cX9_quickOf 39 = .ok (.iload 4, 2) := by decide +kernel
theorem dX9_quickOf_41 : decode cX9_quickOf 41 = .ok (.istore_n 2, 1) := by decide +kernel
theorem dX9_quickOf_42 : decode cX9_quickOf 42 = .ok (.iinc 3 1, 3) := by decide +kernel
theorem dX9_quickOf_45 : decode cX9_quickOf 45 = .ok (.goto (-38), 3) := by decide +kernel
theorem dX9_quickOf_48 : decode cX9_quickOf 48 = .ok (.iload_n 1, 1) := by decide +kernel
theorem dX9_quickOf_49 : decode cX9_quickOf 49 = .ok (.ireturn, 1) := by decide +kernel
theorem dX9_waitOf_0 : decode cX9_waitOf 0 = .ok (.iconst 0, 1) := by decide +kernel
theorem dX9_waitOf_1 : decode cX9_waitOf 1 = .ok (.istore_n 1, 1) := by decide +kernel
theorem dX9_waitOf_2 : decode cX9_waitOf 2 = .ok (.bipush 7, 2) := by decide +kernel
theorem dX9_waitOf_4 : decode cX9_waitOf 4 = .ok (.istore_n 2, 1) := by decide +kernel
theorem dX9_waitOf_5 : decode cX9_waitOf 5 = .ok (.iconst 0, 1) := by decide +kernel
theorem dX9_waitOf_6 : decode cX9_waitOf 6 = .ok (.istore_n 3, 1) := by decide +kernel
theorem dX9_waitOf_7 : decode cX9_waitOf 7 = .ok (.iload_n 3, 1) := by decide +kernel
theorem dX9_waitOf_8 : decode cX9_waitOf 8 = .ok (.bipush 16, 2) := by decide +kernel
theorem dX9_waitOf_10 : decode cX9_waitOf 10 = .ok (.if_icmp .ge 38, 3) := by decide +kernel
theorem dX9_waitOf_13 : decode cX9_waitOf 13 = .ok (.aload_n 0, 1) := by decide +kernel
theorem dX9_waitOf_14 : decode cX9_waitOf 14 = .ok (.invokevirtual 424, 3) := by decide +kernel
theorem dX9_waitOf_17 : decode cX9_waitOf 17 = .ok (.aload_n 0, 1) := by decide +kernel
theorem dX9_waitOf_18 : decode cX9_waitOf 18 = .ok (.iload_n 3, 1) := by decide +kernel
theorem dX9_waitOf_19 : decode cX9_waitOf 19 = .ok (.putfield 113, 3) := by decide +kernel
theorem dX9_waitOf_22 : decode cX9_waitOf 22 = .ok (.aload_n 0, 1) := by decide +kernel
theorem dX9_waitOf_23 : decode cX9_waitOf 23 = .ok (.invokevirtual 436, 3) := by decide +kernel
theorem dX9_waitOf_26 : decode cX9_waitOf 26 = .ok (.istore 4, 2) := by decide +kernel
theorem dX9_waitOf_28 : decode cX9_waitOf 28 = .ok (.iload 4, 2) := by decide +kernel
theorem dX9_waitOf_30 : decode cX9_waitOf 30 = .ok (.iload_n 2, 1) := by decide +kernel
theorem dX9_waitOf_31 : decode cX9_waitOf 31 = .ok (.if_icmp .lt 6, 3) := by decide +kernel
theorem dX9_waitOf_34 : decode cX9_waitOf 34 = .ok (.goto 8, 3) := by decide +kernel
theorem dX9_waitOf_37 : decode cX9_waitOf 37 = .ok (.iload_n 3, 1) := by decide +kernel
theorem dX9_waitOf_38 : decode cX9_waitOf 38 = .ok (.istore_n 1, 1) := by decide +kernel
theorem dX9_waitOf_39 : decode cX9_waitOf 39 = .ok (.iload 4, 2) := by decide +kernel
theorem dX9_waitOf_41 : decode cX9_waitOf 41 = .ok (.istore_n 2, 1) := by decide +kernel
theorem dX9_waitOf_42 : decode cX9_waitOf 42 = .ok (.iinc 3 1, 3) := by decide +kernel
theorem dX9_waitOf_45 : decode cX9_waitOf 45 = .ok (.goto (-38), 3) := by decide +kernel
theorem dX9_waitOf_48 : decode cX9_waitOf 48 = .ok (.iload_n 1, 1) := by decide +kernel
theorem dX9_waitOf_49 : decode cX9_waitOf 49 = .ok (.ireturn, 1) := by decide +kernel
theorem dX9_openOf_0 : decode cX9_openOf 0 = .ok (.bipush (-5), 2) := by decide +kernel
theorem dX9_openOf_2 : decode cX9_openOf 2 = .ok (.istore_n 1, 1) := by decide +kernel
theorem dX9_openOf_3 : decode cX9_openOf 3 = .ok (.aload_n 0, 1) := by decide +kernel
theorem dX9_openOf_4 : decode cX9_openOf 4 = .ok (.invokevirtual 439, 3) := by decide +kernel
theorem dX9_openOf_7 : decode cX9_openOf 7 = .ok (.istore_n 2, 1) := by decide +kernel
theorem dX9_openOf_8 : decode cX9_openOf 8 = .ok (.iconst 0, 1) := by decide +kernel
theorem dX9_openOf_9 : decode cX9_openOf 9 = .ok (.istore_n 3, 1) := by decide +kernel
theorem dX9_openOf_10 : decode cX9_openOf 10 = .ok (.iload_n 3, 1) := by decide +kernel
theorem dX9_openOf_11 : decode cX9_openOf 11 = .ok (.aload_n 0, 1) := by decide +kernel
theorem dX9_openOf_12 : decode cX9_openOf 12 = .ok (.getfield 7, 3) := by decide +kernel
theorem dX9_openOf_15 : decode cX9_openOf 15 = .ok (.if_icmp .ge 52, 3) := by decide +kernel
theorem dX9_openOf_18 : decode cX9_openOf 18 = .ok (.aload_n 0, 1) := by decide +kernel
theorem dX9_openOf_19 : decode cX9_openOf 19 = .ok (.invokevirtual 424, 3) := by decide +kernel
theorem dX9_openOf_22 : decode cX9_openOf 22 = .ok (.aload_n 0, 1) := by decide +kernel
theorem dX9_openOf_23 : decode cX9_openOf 23 = .ok (.aload_n 0, 1) := by decide +kernel
theorem dX9_openOf_24 : decode cX9_openOf 24 = .ok (.aload_n 0, 1) := by decide +kernel
theorem dX9_openOf_25 : decode cX9_openOf 25 = .ok (.getfield 19, 3) := by decide +kernel
theorem dX9_openOf_28 : decode cX9_openOf 28 = .ok (.iload_n 3, 1) := by decide +kernel
theorem dX9_openOf_29 : decode cX9_openOf 29 = .ok (.iconst 0, 1) := by decide +kernel
theorem dX9_openOf_30 : decode cX9_openOf 30 = .ok (.invokevirtual 301, 3) := by decide +kernel
theorem dX9_openOf_33 : decode cX9_openOf 33 = .ok (.putfield 19, 3) := by decide +kernel
theorem dX9_openOf_36 : decode cX9_openOf 36 = .ok (.aload_n 0, 1) := by decide +kernel
theorem dX9_openOf_37 : decode cX9_openOf 37 = .ok (.iload_n 3, 1) := by decide +kernel
theorem dX9_openOf_38 : decode cX9_openOf 38 = .ok (.putfield 116, 3) := by decide +kernel
theorem dX9_openOf_41 : decode cX9_openOf 41 = .ok (.aload_n 0, 1) := by decide +kernel
theorem dX9_openOf_42 : decode cX9_openOf 42 = .ok (.invokevirtual 436, 3) := by decide +kernel
theorem dX9_openOf_45 : decode cX9_openOf 45 = .ok (.istore 4, 2) := by decide +kernel
theorem dX9_openOf_47 : decode cX9_openOf 47 = .ok (.iload 4, 2) := by decide +kernel
theorem dX9_openOf_49 : decode cX9_openOf 49 = .ok (.iload_n 2, 1) := by decide +kernel
theorem dX9_openOf_50 : decode cX9_openOf 50 = .ok (.if_icmp .lt 6, 3) := by decide +kernel
theorem dX9_openOf_53 : decode cX9_openOf 53 = .ok (.goto 8, 3) := by decide +kernel
theorem dX9_openOf_56 : decode cX9_openOf 56 = .ok (.iload_n 3, 1) := by decide +kernel
theorem dX9_openOf_57 : decode cX9_openOf 57 = .ok (.istore_n 1, 1) := by decide +kernel
theorem dX9_openOf_58 : decode cX9_openOf 58 = .ok (.iload 4, 2) := by decide +kernel
theorem dX9_openOf_60 : decode cX9_openOf 60 = .ok (.istore_n 2, 1) := by decide +kernel
theorem dX9_openOf_61 : decode cX9_openOf 61 = .ok (.iinc 3 1, 3) := by decide +kernel
theorem dX9_openOf_64 : decode cX9_openOf 64 = .ok (.goto (-54), 3) := by decide +kernel
theorem dX9_openOf_67 : decode cX9_openOf 67 = .ok (.iload_n 1, 1) := by decide +kernel
theorem dX9_openOf_68 : decode cX9_openOf 68 = .ok (.ireturn, 1) := by decide +kernel
theorem dX9_best_0 : decode cX9_best 0 = .ok (.iload_n 1, 1) := by decide +kernel
theorem dX9_best_1 : decode cX9_best 1 = .ok (.tableswitch 69 0 5 #[39, 44, 49, 54, 59, 64], 39) := by decide +kernel
theorem dX9_best_40 : decode cX9_best 40 = .ok (.aload_n 0, 1) := by decide +kernel
theorem dX9_best_41 : decode cX9_best 41 = .ok (.invokevirtual 442, 3) := by decide +kernel
theorem dX9_best_44 : decode cX9_best 44 = .ok (.ireturn, 1) := by decide +kernel
theorem dX9_best_45 : decode cX9_best 45 = .ok (.aload_n 0, 1) := by decide +kernel
theorem dX9_best_46 : decode cX9_best 46 = .ok (.invokevirtual 445, 3) := by decide +kernel
theorem dX9_best_49 : decode cX9_best 49 = .ok (.ireturn, 1) := by decide +kernel
theorem dX9_best_50 : decode cX9_best 50 = .ok (.aload_n 0, 1) := by decide +kernel
theorem dX9_best_51 : decode cX9_best 51 = .ok (.invokevirtual 448, 3) := by decide +kernel
theorem dX9_best_54 : decode cX9_best 54 = .ok (.ireturn, 1) := by decide +kernel
theorem dX9_best_55 : decode cX9_best 55 = .ok (.aload_n 0, 1) := by decide +kernel
theorem dX9_best_56 : decode cX9_best 56 = .ok (.invokevirtual 451, 3) := by decide +kernel
theorem dX9_best_59 : decode cX9_best 59 = .ok (.ireturn, 1) := by decide +kernel
theorem dX9_best_60 : decode cX9_best 60 = .ok (.aload_n 0, 1) := by decide +kernel
theorem dX9_best_61 : decode cX9_best 61 = .ok (.invokevirtual 454, 3) := by decide +kernel
theorem dX9_best_64 : decode cX9_best 64 = .ok (.ireturn, 1) := by decide +kernel
theorem dX9_best_65 : decode cX9_best 65 = .ok (.aload_n 0, 1) := by decide +kernel
theorem dX9_best_66 : decode cX9_best 66 = .ok (.invokevirtual 439, 3) := by decide +kernel
theorem dX9_best_69 : decode cX9_best 69 = .ok (.ireturn, 1) := by decide +kernel
theorem dX9_best_70 : decode cX9_best 70 = .ok (.iconst (-1), 1) := by decide +kernel
theorem dX9_best_71 : decode cX9_best 71 = .ok (.ireturn, 1) := by decide +kernel
theorem dX9_hides_0 : decode cX9_hides 0 = .ok (.aload_n 0, 1) := by decide +kernel
theorem dX9_hides_1 : decode cX9_hides 1 = .ok (.iload_n 1, 1) := by decide +kernel
theorem dX9_hides_2 : decode cX9_hides 2 = .ok (.invokevirtual 305, 3) := by decide +kernel
theorem dX9_hides_5 : decode cX9_hides 5 = .ok (.ifCond .ne 5, 3) := by decide +kernel
theorem dX9_hides_8 : decode cX9_hides 8 = .ok (.iconst (-1), 1) := by decide +kernel
theorem dX9_hides_9 : decode cX9_hides 9 = .ok (.ireturn, 1) := by decide +kernel
theorem dX9_hides_10 : decode cX9_hides 10 = .ok (.iconst 0, 1) := by decide +kernel
theorem dX9_hides_11 : decode cX9_hides 11 = .ok (.istore_n 2, 1) := by decide +kernel
theorem dX9_hides_12 : decode cX9_hides 12 = .ok (.iconst 0, 1) := by decide +kernel
theorem dX9_hides_13 : decode cX9_hides 13 = .ok (.istore_n 3, 1) := by decide +kernel
theorem dX9_hides_14 : decode cX9_hides 14 = .ok (.iload_n 3, 1) := by decide +kernel
theorem dX9_hides_15 : decode cX9_hides 15 = .ok (.bipush 30, 2) := by decide +kernel
theorem dX9_hides_17 : decode cX9_hides 17 = .ok (.if_icmp .ge 51, 3) := by decide +kernel
theorem dX9_hides_20 : decode cX9_hides 20 = .ok (.aload_n 0, 1) := by decide +kernel
theorem dX9_hides_21 : decode cX9_hides 21 = .ok (.invokevirtual 424, 3) := by decide +kernel
theorem dX9_hides_24 : decode cX9_hides 24 = .ok (.aload_n 0, 1) := by decide +kernel
theorem dX9_hides_25 : decode cX9_hides 25 = .ok (.iload_n 1, 1) := by decide +kernel
theorem dX9_hides_26 : decode cX9_hides 26 = .ok (.iload_n 3, 1) := by decide +kernel
theorem dX9_hides_27 : decode cX9_hides 27 = .ok (.invokevirtual 308, 3) := by decide +kernel
theorem dX9_hides_30 : decode cX9_hides 30 = .ok (.aload_n 0, 1) := by decide +kernel
theorem dX9_hides_31 : decode cX9_hides 31 = .ok (.bipush 30, 2) := by decide +kernel
theorem dX9_hides_33 : decode cX9_hides 33 = .ok (.invokevirtual 418, 3) := by decide +kernel
theorem dX9_hides_36 : decode cX9_hides 36 = .ok (.iload_n 2, 1) := by decide +kernel
theorem dX9_hides_37 : decode cX9_hides 37 = .ok (.aload_n 0, 1) := by decide +kernel
theorem dX9_hides_38 : decode cX9_hides 38 = .ok (.aload_n 0, 1) := by decide +kernel
theorem dX9_hides_39 : decode cX9_hides 39 = .ok (.getfield 25, 3) := by decide +kernel
theorem dX9_hides_42 : decode cX9_hides 42 = .ok (.iload_n 1, 1) := by decide +kernel
theorem dX9_hides_43 : decode cX9_hides 43 = .ok (.invokevirtual 312, 3) := by decide +kernel
theorem dX9_hides_46 : decode cX9_hides 46 = .ok (.ifCond .eq 7, 3) := by decide +kernel
theorem dX9_hides_49 : decode cX9_hides 49 = .ok (.iconst 0, 1) := by decide +kernel
theorem dX9_hides_50 : decode cX9_hides 50 = .ok (.goto 6, 3) := by decide +kernel
theorem dX9_hides_53 : decode cX9_hides 53 = .ok (.iconst 1, 1) := by decide +kernel
theorem dX9_hides_54 : decode cX9_hides 54 = .ok (.iload_n 3, 1) := by decide +kernel
theorem dX9_hides_55 : decode cX9_hides 55 = .ok (.ishl, 1) := by decide +kernel
theorem dX9_hides_56 : decode cX9_hides 56 = .ok (.ior, 1) := by decide +kernel
theorem dX9_hides_57 : decode cX9_hides 57 = .ok (.istore_n 2, 1) := by decide +kernel
theorem dX9_hides_58 : decode cX9_hides 58 = .ok (.aload_n 0, 1) := by decide +kernel
theorem dX9_hides_59 : decode cX9_hides 59 = .ok (.invokevirtual 427, 3) := by decide +kernel
theorem dX9_hides_62 : decode cX9_hides 62 = .ok (.iinc 3 1, 3) := by decide +kernel
theorem dX9_hides_65 : decode cX9_hides 65 = .ok (.goto (-51), 3) := by decide +kernel
theorem dX9_hides_68 : decode cX9_hides 68 = .ok (.iload_n 2, 1) := by decide +kernel
theorem dX9_hides_69 : decode cX9_hides 69 = .ok (.ireturn, 1) := by decide +kernel
theorem dX9_see_0 : decode cX9_see 0 = .ok (.iload_n 1, 1) := by decide +kernel
theorem dX9_see_1 : decode cX9_see 1 = .ok (.iconst (-1), 1) := by decide +kernel
theorem dX9_see_2 : decode cX9_see 2 = .ok (.if_icmp .ne 10, 3) := by decide +kernel
theorem dX9_see_5 : decode cX9_see 5 = .ok (.aload_n 0, 1) := by decide +kernel
theorem dX9_see_6 : decode cX9_see 6 = .ok (.iconst 0, 1) := by decide +kernel
theorem dX9_see_7 : decode cX9_see 7 = .ok (.putfield 159, 3) := by decide +kernel
theorem dX9_see_10 : decode cX9_see 10 = .ok (.iconst 0, 1) := by decide +kernel
theorem dX9_see_11 : decode cX9_see 11 = .ok (.ireturn, 1) := by decide +kernel
theorem dX9_see_12 : decode cX9_see 12 = .ok (.aload_n 0, 1) := by decide +kernel
theorem dX9_see_13 : decode cX9_see 13 = .ok (.iload_n 1, 1) := by decide +kernel
theorem dX9_see_14 : decode cX9_see 14 = .ok (.invokevirtual 305, 3) := by decide +kernel
theorem dX9_see_17 : decode cX9_see 17 = .ok (.ifCond .ne 5, 3) := by decide +kernel
theorem dX9_see_20 : decode cX9_see 20 = .ok (.iconst (-1), 1) := by decide +kernel
theorem dX9_see_21 : decode cX9_see 21 = .ok (.ireturn, 1) := by decide +kernel
theorem dX9_see_22 : decode cX9_see 22 = .ok (.aload_n 0, 1) := by decide +kernel
theorem dX9_see_23 : decode cX9_see 23 = .ok (.iload_n 3, 1) := by decide +kernel
theorem dX9_see_24 : decode cX9_see 24 = .ok (.iconst 0, 1) := by decide +kernel
theorem dX9_see_25 : decode cX9_see 25 = .ok (.bipush 20, 2) := by decide +kernel
theorem dX9_see_27 : decode cX9_see 27 = .ok (.invokevirtual 293, 3) := by decide +kernel
theorem dX9_see_30 : decode cX9_see 30 = .ok (.ifCond .ne 6, 3) := by decide +kernel
theorem dX9_see_33 : decode cX9_see 33 = .ok (.bipush (-2), 2) := by decide +kernel
theorem dX9_see_35 : decode cX9_see 35 = .ok (.ireturn, 1) := by decide +kernel
theorem dX9_see_36 : decode cX9_see 36 = .ok (.aload_n 0, 1) := by decide +kernel
theorem dX9_see_37 : decode cX9_see 37 = .ok (.getfield 159, 3) := by decide +kernel
theorem dX9_see_40 : decode cX9_see 40 = .ok (.iconst 5, 1) := by decide +kernel
theorem dX9_see_41 : decode cX9_see 41 = .ok (.if_icmp .ne 6, 3) := by decide +kernel
theorem dX9_see_44 : decode cX9_see 44 = .ok (.bipush (-4), 2) := by decide +kernel
theorem dX9_see_46 : decode cX9_see 46 = .ok (.ireturn, 1) := by decide +kernel
theorem dX9_see_47 : decode cX9_see 47 = .ok (.aload_n 0, 1) := by decide +kernel
theorem dX9_see_48 : decode cX9_see 48 = .ok (.getfield 162, 3) := by decide +kernel
theorem dX9_see_51 : decode cX9_see 51 = .ok (.aload_n 0, 1) := by decide +kernel
theorem dX9_see_52 : decode cX9_see 52 = .ok (.getfield 159, 3) := by decide +kernel
theorem dX9_see_55 : decode cX9_see 55 = .ok (.iload_n 1, 1) := by decide +kernel
theorem dX9_see_56 : decode cX9_see 56 = .ok (.iastore, 1) := by decide +kernel
theorem dX9_see_57 : decode cX9_see 57 = .ok (.aload_n 0, 1) := by decide +kernel
theorem dX9_see_58 : decode cX9_see 58 = .ok (.getfield 168, 3) := by decide +kernel
theorem dX9_see_61 : decode cX9_see 61 = .ok (.aload_n 0, 1) := by decide +kernel
theorem dX9_see_62 : decode cX9_see 62 = .ok (.getfield 159, 3) := by decide +kernel
theorem dX9_see_65 : decode cX9_see 65 = .ok (.iload_n 2, 1) := by decide +kernel
theorem dX9_see_66 : decode cX9_see 66 = .ok (.bastore, 1) := by decide +kernel
theorem dX9_see_67 : decode cX9_see 67 = .ok (.aload_n 0, 1) := by decide +kernel
theorem dX9_see_68 : decode cX9_see 68 = .ok (.getfield 165, 3) := by decide +kernel
theorem dX9_see_71 : decode cX9_see 71 = .ok (.aload_n 0, 1) := by decide +kernel
theorem dX9_see_72 : decode cX9_see 72 = .ok (.getfield 159, 3) := by decide +kernel
theorem dX9_see_75 : decode cX9_see 75 = .ok (.iload_n 3, 1) := by decide +kernel
theorem dX9_see_76 : decode cX9_see 76 = .ok (.iastore, 1) := by decide +kernel
theorem dX9_see_77 : decode cX9_see 77 = .ok (.aload_n 0, 1) := by decide +kernel
theorem dX9_see_78 : decode cX9_see 78 = .ok (.dup, 1) := by decide +kernel
theorem dX9_see_79 : decode cX9_see 79 = .ok (.getfield 159, 3) := by decide +kernel
theorem dX9_see_82 : decode cX9_see 82 = .ok (.iconst 1, 1) := by decide +kernel
theorem dX9_see_83 : decode cX9_see 83 = .ok (.iadd, 1) := by decide +kernel
theorem dX9_see_84 : decode cX9_see 84 = .ok (.putfield 159, 3) := by decide +kernel
theorem dX9_see_87 : decode cX9_see 87 = .ok (.aload_n 0, 1) := by decide +kernel
theorem dX9_see_88 : decode cX9_see 88 = .ok (.getfield 159, 3) := by decide +kernel
theorem dX9_see_91 : decode cX9_see 91 = .ok (.ireturn, 1) := by decide +kernel
theorem dX9_isSeen_0 : decode cX9_isSeen 0 = .ok (.iconst 1, 1) := by decide +kernel
theorem dX9_isSeen_1 : decode cX9_isSeen 1 = .ok (.istore_n 3, 1) := by decide +kernel
theorem dX9_isSeen_2 : decode cX9_isSeen 2 = .ok (.iconst 0, 1) := by decide +kernel
theorem dX9_isSeen_3 : decode cX9_isSeen 3 = .ok (.istore 4, 2) := by decide +kernel
theorem dX9_isSeen_5 : decode cX9_isSeen 5 = .ok (.iload 4, 2) := by decide +kernel
theorem dX9_isSeen_7 : decode cX9_isSeen 7 = .ok (.aload_n 0, 1) := by decide +kernel
theorem dX9_isSeen_8 : decode cX9_isSeen 8 = .ok (.getfield 159, 3) := by decide +kernel
theorem dX9_isSeen_11 : decode cX9_isSeen 11 = .ok (.if_icmp .ge 73, 3) := by decide +kernel
theorem dX9_isSeen_14 : decode cX9_isSeen 14 = .ok (.iload_n 3, 1) := by decide +kernel
theorem dX9_isSeen_15 : decode cX9_isSeen 15 = .ok (.ifCond .eq 69, 3) := by decide +kernel
theorem dX9_isSeen_18 : decode cX9_isSeen 18 = .ok (.aload_n 0, 1) := by decide +kernel
theorem dX9_isSeen_19 : decode cX9_isSeen 19 = .ok (.invokevirtual 424, 3) := by decide +kernel
theorem dX9_isSeen_22 : decode cX9_isSeen 22 = .ok (.iload_n 2, 1) := by decide +kernel
theorem dX9_isSeen_23 : decode cX9_isSeen 23 = .ok (.ifCond .lt 9, 3) := by decide +kernel
theorem dX9_isSeen_26 : decode cX9_isSeen 26 = .ok (.aload_n 0, 1) := by decide +kernel
theorem dX9_isSeen_27 : decode cX9_isSeen 27 = .ok (.iload_n 1, 1) := by decide +kernel
theorem dX9_isSeen_28 : decode cX9_isSeen 28 = .ok (.iload_n 2, 1) := by decide +kernel
theorem dX9_isSeen_29 : decode cX9_isSeen 29 = .ok (.invokevirtual 308, 3) := by decide +kernel
theorem dX9_isSeen_32 : decode cX9_isSeen 32 = .ok (.aload_n 0, 1) := by decide +kernel
theorem dX9_isSeen_33 : decode cX9_isSeen 33 = .ok (.aload_n 0, 1) := by decide +kernel
theorem dX9_isSeen_34 : decode cX9_isSeen 34 = .ok (.getfield 165, 3) := by decide +kernel
theorem dX9_isSeen_37 : decode cX9_isSeen 37 = .ok (.iload 4, 2) := by decide +kernel
theorem dX9_isSeen_39 : decode cX9_isSeen 39 = .ok (.iaload, 1) := by decide +kernel
theorem dX9_isSeen_40 : decode cX9_isSeen 40 = .ok (.invokevirtual 418, 3) := by decide +kernel
theorem dX9_isSeen_43 : decode cX9_isSeen 43 = .ok (.aload_n 0, 1) := by decide +kernel
theorem dX9_isSeen_44 : decode cX9_isSeen 44 = .ok (.aload_n 0, 1) := by decide +kernel
theorem dX9_isSeen_45 : decode cX9_isSeen 45 = .ok (.getfield 25, 3) := by decide +kernel
theorem dX9_isSeen_48 : decode cX9_isSeen 48 = .ok (.aload_n 0, 1) := by decide +kernel
theorem dX9_isSeen_49 : decode cX9_isSeen 49 = .ok (.getfield 162, 3) := by decide +kernel
theorem dX9_isSeen_52 : decode cX9_isSeen 52 = .ok (.iload 4, 2) := by decide +kernel
theorem dX9_isSeen_54 : decode cX9_isSeen 54 = .ok (.iaload, 1) := by decide +kernel
theorem dX9_isSeen_55 : decode cX9_isSeen 55 = .ok (.invokevirtual 312, 3) := by decide +kernel
theorem dX9_isSeen_58 : decode cX9_isSeen 58 = .ok (.aload_n 0, 1) := by decide +kernel
theorem dX9_isSeen_59 : decode cX9_isSeen 59 = .ok (.getfield 168, 3) := by decide +kernel
theorem dX9_isSeen_62 : decode cX9_isSeen 62 = .ok (.iload 4, 2) := by decide +kernel
theorem dX9_isSeen_64 : decode cX9_isSeen 64 = .ok (.baload, 1) := by decide +kernel
theorem dX9_isSeen_65 : decode cX9_isSeen 65 = .ok (.if_icmp .ne 7, 3) := by decide +kernel
theorem dX9_isSeen_68 : decode cX9_isSeen 68 = .ok (.iconst 1, 1) := by decide +kernel
theorem dX9_isSeen_69 : decode cX9_isSeen 69 = .ok (.goto 4, 3) := by decide +kernel
theorem dX9_isSeen_72 : decode cX9_isSeen 72 = .ok (.iconst 0, 1) := by decide +kernel
theorem dX9_isSeen_73 : decode cX9_isSeen 73 = .ok (.istore_n 3, 1) := by decide +kernel
theorem dX9_isSeen_74 : decode cX9_isSeen 74 = .ok (.aload_n 0, 1) := by decide +kernel
theorem dX9_isSeen_75 : decode cX9_isSeen 75 = .ok (.invokevirtual 427, 3) := by decide +kernel
theorem dX9_isSeen_78 : decode cX9_isSeen 78 = .ok (.iinc 4 1, 3) := by decide +kernel
theorem dX9_isSeen_81 : decode cX9_isSeen 81 = .ok (.goto (-76), 3) := by decide +kernel
theorem dX9_isSeen_84 : decode cX9_isSeen 84 = .ok (.iload_n 3, 1) := by decide +kernel
theorem dX9_isSeen_85 : decode cX9_isSeen 85 = .ok (.ireturn, 1) := by decide +kernel
theorem dX9_where_0 : decode cX9_where 0 = .ok (.aload_n 0, 1) := by decide +kernel
theorem dX9_where_1 : decode cX9_where 1 = .ok (.iload_n 1, 1) := by decide +kernel
theorem dX9_where_2 : decode cX9_where 2 = .ok (.invokevirtual 305, 3) := by decide +kernel
theorem dX9_where_5 : decode cX9_where 5 = .ok (.ifCond .eq 13, 3) := by decide +kernel
theorem dX9_where_8 : decode cX9_where 8 = .ok (.aload_n 0, 1) := by decide +kernel
theorem dX9_where_9 : decode cX9_where 9 = .ok (.iload_n 2, 1) := by decide +kernel
theorem dX9_where_10 : decode cX9_where 10 = .ok (.iconst 0, 1) := by decide +kernel
theorem dX9_where_11 : decode cX9_where 11 = .ok (.iconst 1, 1) := by decide +kernel
theorem dX9_where_12 : decode cX9_where 12 = .ok (.invokevirtual 293, 3) := by decide +kernel
theorem dX9_where_15 : decode cX9_where 15 = .ok (.ifCond .ne 5, 3) := by decide +kernel
theorem dX9_where_18 : decode cX9_where 18 = .ok (.iconst (-1), 1) := by decide +kernel
theorem dX9_where_19 : decode cX9_where 19 = .ok (.ireturn, 1) := by decide +kernel
theorem dX9_where_20 : decode cX9_where 20 = .ok (.iconst 0, 1) := by decide +kernel
theorem dX9_where_21 : decode cX9_where 21 = .ok (.istore_n 3, 1) := by decide +kernel
theorem dX9_where_22 : decode cX9_where 22 = .ok (.bipush (-5), 2) := by decide +kernel
theorem dX9_where_24 : decode cX9_where 24 = .ok (.istore 4, 2) := by decide +kernel
theorem dX9_where_26 : decode cX9_where 26 = .ok (.bipush 29, 2) := by decide +kernel
theorem dX9_where_28 : decode cX9_where 28 = .ok (.istore 5, 2) := by decide +kernel
theorem dX9_where_30 : decode cX9_where 30 = .ok (.iload 5, 2) := by decide +kernel
theorem dX9_where_32 : decode cX9_where 32 = .ok (.ifCond .lt 29, 3) := by decide +kernel
theorem dX9_where_35 : decode cX9_where 35 = .ok (.aload_n 0, 1) := by decide +kernel
theorem dX9_where_36 : decode cX9_where 36 = .ok (.iload_n 1, 1) := by decide +kernel
theorem dX9_where_37 : decode cX9_where 37 = .ok (.iload 5, 2) := by decide +kernel
theorem dX9_where_39 : decode cX9_where 39 = .ok (.invokevirtual 457, 3) := by decide +kernel
theorem dX9_where_42 : decode cX9_where 42 = .ok (.ifCond .ne 6, 3) := by decide +kernel
theorem dX9_where_45 : decode cX9_where 45 = .ok (.goto 10, 3) := by decide +kernel
theorem dX9_where_48 : decode cX9_where 48 = .ok (.iinc 3 1, 3) := by decide +kernel
theorem dX9_where_51 : decode cX9_where 51 = .ok (.iload 5, 2) := by decide +kernel
theorem dX9_where_53 : decode cX9_where 53 = .ok (.istore 4, 2) := by decide +kernel
theorem dX9_where_55 : decode cX9_where 55 = .ok (.iinc 5 (-1), 3) := by decide +kernel
theorem dX9_where_58 : decode cX9_where 58 = .ok (.goto (-28), 3) := by decide +kernel
theorem dX9_where_61 : decode cX9_where 61 = .ok (.iload_n 2, 1) := by decide +kernel
theorem dX9_where_62 : decode cX9_where 62 = .ok (.ifCond .ne 7, 3) := by decide +kernel
theorem dX9_where_65 : decode cX9_where 65 = .ok (.iload_n 3, 1) := by decide +kernel
theorem dX9_where_66 : decode cX9_where 66 = .ok (.goto 5, 3) := by decide +kernel
theorem dX9_where_69 : decode cX9_where 69 = .ok (.iload 4, 2) := by decide +kernel
theorem dX9_where_71 : decode cX9_where 71 = .ok (.ireturn, 1) := by decide +kernel
theorem dX9_can_0 : decode cX9_can 0 = .ok (.aload_n 0, 1) := by decide +kernel
theorem dX9_can_1 : decode cX9_can 1 = .ok (.iload_n 1, 1) := by decide +kernel
theorem dX9_can_2 : decode cX9_can 2 = .ok (.invokevirtual 305, 3) := by decide +kernel
theorem dX9_can_5 : decode cX9_can 5 = .ok (.ifCond .eq 13, 3) := by decide +kernel
theorem dX9_can_8 : decode cX9_can 8 = .ok (.aload_n 0, 1) := by decide +kernel
theorem dX9_can_9 : decode cX9_can 9 = .ok (.iload_n 2, 1) := by decide +kernel
theorem dX9_can_10 : decode cX9_can 10 = .ok (.iconst 0, 1) := by decide +kernel
theorem dX9_can_11 : decode cX9_can 11 = .ok (.iconst 1, 1) := by decide +kernel
theorem dX9_can_12 : decode cX9_can 12 = .ok (.invokevirtual 293, 3) := by decide +kernel
theorem dX9_can_15 : decode cX9_can 15 = .ok (.ifCond .ne 5, 3) := by decide +kernel
theorem dX9_can_18 : decode cX9_can 18 = .ok (.iconst (-1), 1) := by decide +kernel
theorem dX9_can_19 : decode cX9_can 19 = .ok (.ireturn, 1) := by decide +kernel
theorem dX9_can_20 : decode cX9_can 20 = .ok (.aload_n 0, 1) := by decide +kernel
theorem dX9_can_21 : decode cX9_can 21 = .ok (.getfield 44, 3) := by decide +kernel
theorem dX9_can_24 : decode cX9_can 24 = .ok (.iload_n 1, 1) := by decide +kernel
theorem dX9_can_25 : decode cX9_can 25 = .ok (.iaload, 1) := by decide +kernel
theorem dX9_can_26 : decode cX9_can 26 = .ok (.istore_n 3, 1) := by decide +kernel
theorem dX9_can_27 : decode cX9_can 27 = .ok (.iconst 0, 1) := by decide +kernel
theorem dX9_can_28 : decode cX9_can 28 = .ok (.istore 4, 2) := by decide +kernel
theorem dX9_can_30 : decode cX9_can 30 = .ok (.bipush (-5), 2) := by decide +kernel
theorem dX9_can_32 : decode cX9_can 32 = .ok (.istore 5, 2) := by decide +kernel
theorem dX9_can_34 : decode cX9_can 34 = .ok (.bipush 9, 2) := by decide +kernel
theorem dX9_can_36 : decode cX9_can 36 = .ok (.istore 6, 2) := by decide +kernel
theorem dX9_can_38 : decode cX9_can 38 = .ok (.iload 6, 2) := by decide +kernel
theorem dX9_can_40 : decode cX9_can 40 = .ok (.ifCond .lt 36, 3) := by decide +kernel
theorem dX9_can_43 : decode cX9_can 43 = .ok (.aload_n 0, 1) := by decide +kernel
theorem dX9_can_44 : decode cX9_can 44 = .ok (.getfield 44, 3) := by decide +kernel
theorem dX9_can_47 : decode cX9_can 47 = .ok (.iload_n 1, 1) := by decide +kernel
theorem dX9_can_48 : decode cX9_can 48 = .ok (.iload 6, 2) := by decide +kernel
theorem dX9_can_50 : decode cX9_can 50 = .ok (.iastore, 1) := by decide +kernel
theorem dX9_can_51 : decode cX9_can 51 = .ok (.aload_n 0, 1) := by decide +kernel
theorem dX9_can_52 : decode cX9_can 52 = .ok (.iload_n 1, 1) := by decide +kernel
theorem dX9_can_53 : decode cX9_can 53 = .ok (.iconst (-1), 1) := by decide +kernel
theorem dX9_can_54 : decode cX9_can 54 = .ok (.invokevirtual 457, 3) := by decide +kernel
theorem dX9_can_57 : decode cX9_can 57 = .ok (.ifCond .ne 6, 3) := by decide +kernel
theorem dX9_can_60 : decode cX9_can 60 = .ok (.goto 10, 3) := by decide +kernel
theorem dX9_can_63 : decode cX9_can 63 = .ok (.iinc 4 1, 3) := by decide +kernel
theorem dX9_can_66 : decode cX9_can 66 = .ok (.iload 6, 2) := by decide +kernel
theorem dX9_can_68 : decode cX9_can 68 = .ok (.istore 5, 2) := by decide +kernel
theorem dX9_can_70 : decode cX9_can 70 = .ok (.iinc 6 (-1), 3) := by decide +kernel
theorem dX9_can_73 : decode cX9_can 73 = .ok (.goto (-35), 3) := by decide +kernel
theorem dX9_can_76 : decode cX9_can 76 = .ok (.aload_n 0, 1) := by decide +kernel
theorem dX9_can_77 : decode cX9_can 77 = .ok (.getfield 44, 3) := by decide +kernel
theorem dX9_can_80 : decode cX9_can 80 = .ok (.iload_n 1, 1) := by decide +kernel
theorem dX9_can_81 : decode cX9_can 81 = .ok (.iload_n 3, 1) := by decide +kernel
theorem dX9_can_82 : decode cX9_can 82 = .ok (.iastore, 1) := by decide +kernel
theorem dX9_can_83 : decode cX9_can 83 = .ok (.iload_n 2, 1) := by decide +kernel
theorem dX9_can_84 : decode cX9_can 84 = .ok (.ifCond .ne 8, 3) := by decide +kernel
theorem dX9_can_87 : decode cX9_can 87 = .ok (.iload 4, 2) := by decide +kernel
theorem dX9_can_89 : decode cX9_can 89 = .ok (.goto 5, 3) := by decide +kernel
theorem dX9_can_92 : decode cX9_can 92 = .ok (.iload 5, 2) := by decide +kernel
theorem dX9_can_94 : decode cX9_can 94 = .ok (.ireturn, 1) := by decide +kernel
theorem dX9_divisor_0 : decode cX9_divisor 0 = .ok (.iload_n 1, 1) := by decide +kernel
theorem dX9_divisor_1 : decode cX9_divisor 1 = .ok (.istore_n 3, 1) := by decide +kernel
theorem dX9_divisor_2 : decode cX9_divisor 2 = .ok (.iload_n 2, 1) := by decide +kernel
theorem dX9_divisor_3 : decode cX9_divisor 3 = .ok (.istore 4, 2) := by decide +kernel
theorem dX9_divisor_5 : decode cX9_divisor 5 = .ok (.iload 4, 2) := by decide +kernel
theorem dX9_divisor_7 : decode cX9_divisor 7 = .ok (.ifCond .eq 19, 3) := by decide +kernel
theorem dX9_divisor_10 : decode cX9_divisor 10 = .ok (.iload_n 3, 1) := by decide +kernel
theorem dX9_divisor_11 : decode cX9_divisor 11 = .ok (.iload 4, 2) := by decide +kernel
theorem dX9_divisor_13 : decode cX9_divisor 13 = .ok (.irem, 1) := by decide +kernel
theorem dX9_divisor_14 : decode cX9_divisor 14 = .ok (.istore 5, 2) := by decide +kernel
theorem dX9_divisor_16 : decode cX9_divisor 16 = .ok (.iload 4, 2) := by decide +kernel
theorem dX9_divisor_18 : decode cX9_divisor 18 = .ok (.istore_n 3, 1) := by decide +kernel
theorem dX9_divisor_19 : decode cX9_divisor 19 = .ok (.iload 5, 2) := by decide +kernel
theorem dX9_divisor_21 : decode cX9_divisor 21 = .ok (.istore 4, 2) := by decide +kernel
theorem dX9_divisor_23 : decode cX9_divisor 23 = .ok (.goto (-18), 3) := by decide +kernel
theorem dX9_divisor_26 : decode cX9_divisor 26 = .ok (.iload_n 3, 1) := by decide +kernel
theorem dX9_divisor_27 : decode cX9_divisor 27 = .ok (.ireturn, 1) := by decide +kernel
theorem dX9_lowest_0 : decode cX9_lowest 0 = .ok (.aload_n 0, 1) := by decide +kernel
theorem dX9_lowest_1 : decode cX9_lowest 1 = .ok (.iload_n 1, 1) := by decide +kernel
theorem dX9_lowest_2 : decode cX9_lowest 2 = .ok (.iload_n 2, 1) := by decide +kernel
theorem dX9_lowest_3 : decode cX9_lowest 3 = .ok (.invokevirtual 460, 3) := by decide +kernel
theorem dX9_lowest_6 : decode cX9_lowest 6 = .ok (.istore 4, 2) := by decide +kernel
theorem dX9_lowest_8 : decode cX9_lowest 8 = .ok (.iload_n 3, 1) := by decide +kernel
theorem dX9_lowest_9 : decode cX9_lowest 9 = .ok (.ifCond .ne 11, 3) := by decide +kernel
theorem dX9_lowest_12 : decode cX9_lowest 12 = .ok (.iload_n 1, 1) := by decide +kernel
theorem dX9_lowest_13 : decode cX9_lowest 13 = .ok (.iload 4, 2) := by decide +kernel
theorem dX9_lowest_15 : decode cX9_lowest 15 = .ok (.idiv, 1) := by decide +kernel
theorem dX9_lowest_16 : decode cX9_lowest 16 = .ok (.i2l, 1) := by decide +kernel
theorem dX9_lowest_17 : decode cX9_lowest 17 = .ok (.goto 8, 3) := by decide +kernel
theorem dX9_lowest_20 : decode cX9_lowest 20 = .ok (.iload_n 2, 1) := by decide +kernel
theorem dX9_lowest_21 : decode cX9_lowest 21 = .ok (.iload 4, 2) := by decide +kernel
theorem dX9_lowest_23 : decode cX9_lowest 23 = .ok (.idiv, 1) := by decide +kernel
theorem dX9_lowest_24 : decode cX9_lowest 24 = .ok (.i2l, 1) := by decide +kernel
theorem dX9_lowest_25 : decode cX9_lowest 25 = .ok (.lreturn, 1) := by decide +kernel
theorem dX9_odds_0 : decode cX9_odds 0 = .ok (.aload_n 0, 1) := by decide +kernel
theorem dX9_odds_1 : decode cX9_odds 1 = .ok (.iload_n 1, 1) := by decide +kernel
theorem dX9_odds_2 : decode cX9_odds 2 = .ok (.invokevirtual 421, 3) := by decide +kernel
theorem dX9_odds_5 : decode cX9_odds 5 = .ok (.ifCond .eq 20, 3) := by decide +kernel
theorem dX9_odds_8 : decode cX9_odds 8 = .ok (.aload_n 0, 1) := by decide +kernel
theorem dX9_odds_9 : decode cX9_odds 9 = .ok (.iload_n 2, 1) := by decide +kernel
theorem dX9_odds_10 : decode cX9_odds 10 = .ok (.iconst 0, 1) := by decide +kernel
theorem dX9_odds_11 : decode cX9_odds 11 = .ok (.iconst 1, 1) := by decide +kernel
theorem dX9_odds_12 : decode cX9_odds 12 = .ok (.invokevirtual 293, 3) := by decide +kernel
theorem dX9_odds_15 : decode cX9_odds 15 = .ok (.ifCond .eq 10, 3) := by decide +kernel
theorem dX9_odds_18 : decode cX9_odds 18 = .ok (.aload_n 0, 1) := by decide +kernel
theorem dX9_odds_19 : decode cX9_odds 19 = .ok (.getfield 13, 3) := by decide +kernel
theorem dX9_odds_22 : decode cX9_odds 22 = .ok (.ifCond .ne 7, 3) := by decide +kernel
theorem dX9_odds_25 : decode cX9_odds 25 = .ok (.ldc2_w 463, 3) := by decide +kernel
theorem dX9_odds_28 : decode cX9_odds 28 = .ok (.lreturn, 1) := by decide +kernel
theorem dX9_odds_29 : decode cX9_odds 29 = .ok (.iconst 0, 1) := by decide +kernel
theorem dX9_odds_30 : decode cX9_odds 30 = .ok (.istore_n 3, 1) := by decide +kernel
theorem dX9_odds_31 : decode cX9_odds 31 = .ok (.iconst 0, 1) := by decide +kernel
theorem dX9_odds_32 : decode cX9_odds 32 = .ok (.istore 4, 2) := by decide +kernel
theorem dX9_odds_34 : decode cX9_odds 34 = .ok (.iload 4, 2) := by decide +kernel
theorem dX9_odds_36 : decode cX9_odds 36 = .ok (.aload_n 0, 1) := by decide +kernel
theorem dX9_odds_37 : decode cX9_odds 37 = .ok (.getfield 13, 3) := by decide +kernel
theorem dX9_odds_40 : decode cX9_odds 40 = .ok (.if_icmp .ge 56, 3) := by decide +kernel
theorem dX9_odds_43 : decode cX9_odds 43 = .ok (.aload_n 0, 1) := by decide +kernel
theorem dX9_odds_44 : decode cX9_odds 44 = .ok (.invokevirtual 424, 3) := by decide +kernel
theorem dX9_odds_47 : decode cX9_odds 47 = .ok (.aload_n 0, 1) := by decide +kernel
theorem dX9_odds_48 : decode cX9_odds 48 = .ok (.aload_n 0, 1) := by decide +kernel
theorem dX9_odds_49 : decode cX9_odds 49 = .ok (.aload_n 0, 1) := by decide +kernel
theorem dX9_odds_50 : decode cX9_odds 50 = .ok (.getfield 22, 3) := by decide +kernel
theorem dX9_odds_53 : decode cX9_odds 53 = .ok (.iload 4, 2) := by decide +kernel
theorem dX9_odds_55 : decode cX9_odds 55 = .ok (.iconst 1, 1) := by decide +kernel
theorem dX9_odds_56 : decode cX9_odds 56 = .ok (.invokevirtual 301, 3) := by decide +kernel
theorem dX9_odds_59 : decode cX9_odds 59 = .ok (.putfield 22, 3) := by decide +kernel
theorem dX9_odds_62 : decode cX9_odds 62 = .ok (.aload_n 0, 1) := by decide +kernel
theorem dX9_odds_63 : decode cX9_odds 63 = .ok (.iload_n 1, 1) := by decide +kernel
theorem dX9_odds_64 : decode cX9_odds 64 = .ok (.invokevirtual 418, 3) := by decide +kernel
theorem dX9_odds_67 : decode cX9_odds 67 = .ok (.iload_n 3, 1) := by decide +kernel
theorem dX9_odds_68 : decode cX9_odds 68 = .ok (.aload_n 0, 1) := by decide +kernel
theorem dX9_odds_69 : decode cX9_odds 69 = .ok (.getfield 25, 3) := by decide +kernel
theorem dX9_odds_72 : decode cX9_odds 72 = .ok (.aload_n 0, 1) := by decide +kernel
theorem dX9_odds_73 : decode cX9_odds 73 = .ok (.invokevirtual 430, 3) := by decide +kernel
theorem dX9_odds_76 : decode cX9_odds 76 = .ok (.if_icmp .ne 7, 3) := by decide +kernel
theorem dX9_odds_79 : decode cX9_odds 79 = .ok (.iconst 1, 1) := by decide +kernel
theorem dX9_odds_80 : decode cX9_odds 80 = .ok (.goto 4, 3) := by decide +kernel
theorem dX9_odds_83 : decode cX9_odds 83 = .ok (.iconst 0, 1) := by decide +kernel
theorem dX9_odds_84 : decode cX9_odds 84 = .ok (.iadd, 1) := by decide +kernel
theorem dX9_odds_85 : decode cX9_odds 85 = .ok (.istore_n 3, 1) := by decide +kernel
theorem dX9_odds_86 : decode cX9_odds 86 = .ok (.aload_n 0, 1) := by decide +kernel
theorem dX9_odds_87 : decode cX9_odds 87 = .ok (.invokevirtual 427, 3) := by decide +kernel
theorem dX9_odds_90 : decode cX9_odds 90 = .ok (.iinc 4 1, 3) := by decide +kernel
theorem dX9_odds_93 : decode cX9_odds 93 = .ok (.goto (-59), 3) := by decide +kernel
theorem dX9_odds_96 : decode cX9_odds 96 = .ok (.aload_n 0, 1) := by decide +kernel
theorem dX9_odds_97 : decode cX9_odds 97 = .ok (.iload_n 3, 1) := by decide +kernel
theorem dX9_odds_98 : decode cX9_odds 98 = .ok (.aload_n 0, 1) := by decide +kernel
theorem dX9_odds_99 : decode cX9_odds 99 = .ok (.getfield 13, 3) := by decide +kernel
theorem dX9_odds_102 : decode cX9_odds 102 = .ok (.iload_n 2, 1) := by decide +kernel
theorem dX9_odds_103 : decode cX9_odds 103 = .ok (.invokevirtual 465, 3) := by decide +kernel
theorem dX9_odds_106 : decode cX9_odds 106 = .ok (.lreturn, 1) := by decide +kernel
theorem dX9_mean_0 : decode cX9_mean 0 = .ok (.aload_n 0, 1) := by decide +kernel
theorem dX9_mean_1 : decode cX9_mean 1 = .ok (.iload_n 1, 1) := by decide +kernel
theorem dX9_mean_2 : decode cX9_mean 2 = .ok (.iconst 1, 1) := by decide +kernel
theorem dX9_mean_3 : decode cX9_mean 3 = .ok (.bipush 60, 2) := by decide +kernel
theorem dX9_mean_5 : decode cX9_mean 5 = .ok (.invokevirtual 293, 3) := by decide +kernel
theorem dX9_mean_8 : decode cX9_mean 8 = .ok (.ifCond .eq 13, 3) := by decide +kernel
theorem dX9_mean_11 : decode cX9_mean 11 = .ok (.aload_n 0, 1) := by decide +kernel
theorem dX9_mean_12 : decode cX9_mean 12 = .ok (.iload_n 2, 1) := by decide +kernel
theorem dX9_mean_13 : decode cX9_mean 13 = .ok (.iconst 0, 1) := by decide +kernel
theorem dX9_mean_14 : decode cX9_mean 14 = .ok (.iconst 1, 1) := by decide +kernel
theorem dX9_mean_15 : decode cX9_mean 15 = .ok (.invokevirtual 293, 3) := by decide +kernel
theorem dX9_mean_18 : decode cX9_mean 18 = .ok (.ifCond .ne 7, 3) := by decide +kernel
theorem dX9_mean_21 : decode cX9_mean 21 = .ok (.ldc2_w 463, 3) := by decide +kernel
theorem dX9_mean_24 : decode cX9_mean 24 = .ok (.lreturn, 1) := by decide +kernel
theorem dX9_mean_25 : decode cX9_mean 25 = .ok (.aload_n 0, 1) := by decide +kernel
theorem dX9_mean_26 : decode cX9_mean 26 = .ok (.invokevirtual 424, 3) := by decide +kernel
theorem dX9_mean_29 : decode cX9_mean 29 = .ok (.iconst 0, 1) := by decide +kernel
theorem dX9_mean_30 : decode cX9_mean 30 = .ok (.istore_n 3, 1) := by decide +kernel
theorem dX9_mean_31 : decode cX9_mean 31 = .ok (.iconst 0, 1) := by decide +kernel
theorem dX9_mean_32 : decode cX9_mean 32 = .ok (.istore 4, 2) := by decide +kernel
theorem dX9_mean_34 : decode cX9_mean 34 = .ok (.iload 4, 2) := by decide +kernel
theorem dX9_mean_36 : decode cX9_mean 36 = .ok (.iload_n 1, 1) := by decide +kernel
theorem dX9_mean_37 : decode cX9_mean 37 = .ok (.if_icmp .ge 24, 3) := by decide +kernel
theorem dX9_mean_40 : decode cX9_mean 40 = .ok (.aload_n 0, 1) := by decide +kernel
theorem dX9_mean_41 : decode cX9_mean 41 = .ok (.invokevirtual 415, 3) := by decide +kernel
theorem dX9_mean_44 : decode cX9_mean 44 = .ok (.iload_n 3, 1) := by decide +kernel
theorem dX9_mean_45 : decode cX9_mean 45 = .ok (.aload_n 0, 1) := by decide +kernel
theorem dX9_mean_46 : decode cX9_mean 46 = .ok (.aload_n 0, 1) := by decide +kernel
theorem dX9_mean_47 : decode cX9_mean 47 = .ok (.getfield 25, 3) := by decide +kernel
theorem dX9_mean_50 : decode cX9_mean 50 = .ok (.invokevirtual 375, 3) := by decide +kernel
theorem dX9_mean_53 : decode cX9_mean 53 = .ok (.iadd, 1) := by decide +kernel
theorem dX9_mean_54 : decode cX9_mean 54 = .ok (.istore_n 3, 1) := by decide +kernel
theorem dX9_mean_55 : decode cX9_mean 55 = .ok (.iinc 4 1, 3) := by decide +kernel
theorem dX9_mean_58 : decode cX9_mean 58 = .ok (.goto (-24), 3) := by decide +kernel
theorem dX9_mean_61 : decode cX9_mean 61 = .ok (.aload_n 0, 1) := by decide +kernel
theorem dX9_mean_62 : decode cX9_mean 62 = .ok (.invokevirtual 427, 3) := by decide +kernel
theorem dX9_mean_65 : decode cX9_mean 65 = .ok (.aload_n 0, 1) := by decide +kernel
theorem dX9_mean_66 : decode cX9_mean 66 = .ok (.iload_n 3, 1) := by decide +kernel
theorem dX9_mean_67 : decode cX9_mean 67 = .ok (.iload_n 1, 1) := by decide +kernel
theorem dX9_mean_68 : decode cX9_mean 68 = .ok (.iload_n 2, 1) := by decide +kernel
theorem dX9_mean_69 : decode cX9_mean 69 = .ok (.invokevirtual 465, 3) := by decide +kernel
theorem dX9_mean_72 : decode cX9_mean 72 = .ok (.lreturn, 1) := by decide +kernel
theorem dX9_evening_0 : decode cX9_evening 0 = .ok (.iload_n 1, 1) := by decide +kernel
theorem dX9_evening_1 : decode cX9_evening 1 = .ok (.iconst (-1), 1) := by decide +kernel
theorem dX9_evening_2 : decode cX9_evening 2 = .ok (.if_icmp .ne 10, 3) := by decide +kernel
theorem dX9_evening_5 : decode cX9_evening 5 = .ok (.aload_n 0, 1) := by decide +kernel
theorem dX9_evening_6 : decode cX9_evening 6 = .ok (.iconst 0, 1) := by decide +kernel
theorem dX9_evening_7 : decode cX9_evening 7 = .ok (.putfield 171, 3) := by decide +kernel
theorem dX9_evening_10 : decode cX9_evening 10 = .ok (.iconst 0, 1) := by decide +kernel
theorem dX9_evening_11 : decode cX9_evening 11 = .ok (.ireturn, 1) := by decide +kernel
theorem dX9_evening_12 : decode cX9_evening 12 = .ok (.aload_n 0, 1) := by decide +kernel
theorem dX9_evening_13 : decode cX9_evening 13 = .ok (.iload_n 1, 1) := by decide +kernel
theorem dX9_evening_14 : decode cX9_evening 14 = .ok (.iconst 0, 1) := by decide +kernel
theorem dX9_evening_15 : decode cX9_evening 15 = .ok (.iconst 3, 1) := by decide +kernel
theorem dX9_evening_16 : decode cX9_evening 16 = .ok (.invokevirtual 293, 3) := by decide +kernel
theorem dX9_evening_19 : decode cX9_evening 19 = .ok (.ifCond .eq 34, 3) := by decide +kernel
theorem dX9_evening_22 : decode cX9_evening 22 = .ok (.aload_n 0, 1) := by decide +kernel
theorem dX9_evening_23 : decode cX9_evening 23 = .ok (.iload_n 1, 1) := by decide +kernel
theorem dX9_evening_24 : decode cX9_evening 24 = .ok (.iconst 1, 1) := by decide +kernel
theorem dX9_evening_25 : decode cX9_evening 25 = .ok (.iconst 2, 1) := by decide +kernel
theorem dX9_evening_26 : decode cX9_evening 26 = .ok (.invokevirtual 293, 3) := by decide +kernel
theorem dX9_evening_29 : decode cX9_evening 29 = .ok (.ifCond .eq 11, 3) := by decide +kernel
theorem dX9_evening_32 : decode cX9_evening 32 = .ok (.aload_n 0, 1) := by decide +kernel
theorem dX9_evening_33 : decode cX9_evening 33 = .ok (.iload_n 2, 1) := by decide +kernel
theorem dX9_evening_34 : decode cX9_evening 34 = .ok (.invokevirtual 316, 3) := by decide +kernel
theorem dX9_evening_37 : decode cX9_evening 37 = .ok (.ifCond .eq 16, 3) := by decide +kernel
theorem dX9_evening_40 : decode cX9_evening 40 = .ok (.iload_n 1, 1) := by decide +kernel
theorem dX9_evening_41 : decode cX9_evening 41 = .ok (.iconst 3, 1) := by decide +kernel
theorem dX9_evening_42 : decode cX9_evening 42 = .ok (.if_icmp .ne 13, 3) := by decide +kernel
theorem dX9_evening_45 : decode cX9_evening 45 = .ok (.aload_n 0, 1) := by decide +kernel
theorem dX9_evening_46 : decode cX9_evening 46 = .ok (.iload_n 2, 1) := by decide +kernel
theorem dX9_evening_47 : decode cX9_evening 47 = .ok (.invokevirtual 305, 3) := by decide +kernel
theorem dX9_evening_50 : decode cX9_evening 50 = .ok (.ifCond .ne 5, 3) := by decide +kernel
theorem dX9_evening_53 : decode cX9_evening 53 = .ok (.iconst (-1), 1) := by decide +kernel
theorem dX9_evening_54 : decode cX9_evening 54 = .ok (.ireturn, 1) := by decide +kernel
theorem dX9_evening_55 : decode cX9_evening 55 = .ok (.aload_n 0, 1) := by decide +kernel
theorem dX9_evening_56 : decode cX9_evening 56 = .ok (.getfield 171, 3) := by decide +kernel
theorem dX9_evening_59 : decode cX9_evening 59 = .ok (.bipush 10, 2) := by decide +kernel
theorem dX9_evening_61 : decode cX9_evening 61 = .ok (.if_icmp .ne 6, 3) := by decide +kernel
theorem dX9_evening_64 : decode cX9_evening 64 = .ok (.bipush (-4), 2) := by decide +kernel
theorem dX9_evening_66 : decode cX9_evening 66 = .ok (.ireturn, 1) := by decide +kernel
theorem dX9_evening_67 : decode cX9_evening 67 = .ok (.aload_n 0, 1) := by decide +kernel
theorem dX9_evening_68 : decode cX9_evening 68 = .ok (.getfield 177, 3) := by decide +kernel
theorem dX9_evening_71 : decode cX9_evening 71 = .ok (.aload_n 0, 1) := by decide +kernel
theorem dX9_evening_72 : decode cX9_evening 72 = .ok (.getfield 171, 3) := by decide +kernel
theorem dX9_evening_75 : decode cX9_evening 75 = .ok (.iload_n 1, 1) := by decide +kernel
theorem dX9_evening_76 : decode cX9_evening 76 = .ok (.iastore, 1) := by decide +kernel
theorem dX9_evening_77 : decode cX9_evening 77 = .ok (.aload_n 0, 1) := by decide +kernel
theorem dX9_evening_78 : decode cX9_evening 78 = .ok (.getfield 180, 3) := by decide +kernel
theorem dX9_evening_81 : decode cX9_evening 81 = .ok (.aload_n 0, 1) := by decide +kernel
theorem dX9_evening_82 : decode cX9_evening 82 = .ok (.getfield 171, 3) := by decide +kernel
theorem dX9_evening_85 : decode cX9_evening 85 = .ok (.iload_n 1, 1) := by decide +kernel
theorem dX9_evening_86 : decode cX9_evening 86 = .ok (.ifCond .le 7, 3) := by decide +kernel
theorem dX9_evening_89 : decode cX9_evening 89 = .ok (.iload_n 2, 1) := by decide +kernel
theorem dX9_evening_90 : decode cX9_evening 90 = .ok (.goto 4, 3) := by decide +kernel
theorem dX9_evening_93 : decode cX9_evening 93 = .ok (.iconst 0, 1) := by decide +kernel
theorem dX9_evening_94 : decode cX9_evening 94 = .ok (.iastore, 1) := by decide +kernel
theorem dX9_evening_95 : decode cX9_evening 95 = .ok (.aload_n 0, 1) := by decide +kernel
theorem dX9_evening_96 : decode cX9_evening 96 = .ok (.dup, 1) := by decide +kernel
theorem dX9_evening_97 : decode cX9_evening 97 = .ok (.getfield 171, 3) := by decide +kernel
theorem dX9_evening_100 : decode cX9_evening 100 = .ok (.iconst 1, 1) := by decide +kernel
theorem dX9_evening_101 : decode cX9_evening 101 = .ok (.iadd, 1) := by decide +kernel
theorem dX9_evening_102 : decode cX9_evening 102 = .ok (.putfield 171, 3) := by decide +kernel
theorem dX9_evening_105 : decode cX9_evening 105 = .ok (.aload_n 0, 1) := by decide +kernel
theorem dX9_evening_106 : decode cX9_evening 106 = .ok (.getfield 171, 3) := by decide +kernel
theorem dX9_evening_109 : decode cX9_evening 109 = .ok (.ireturn, 1) := by decide +kernel
theorem dX9_gone_0 : decode cX9_gone 0 = .ok (.aload_n 0, 1) := by decide +kernel
theorem dX9_gone_1 : decode cX9_gone 1 = .ok (.iload_n 1, 1) := by decide +kernel
theorem dX9_gone_2 : decode cX9_gone 2 = .ok (.iconst 0, 1) := by decide +kernel
theorem dX9_gone_3 : decode cX9_gone 3 = .ok (.iconst 1, 1) := by decide +kernel
theorem dX9_gone_4 : decode cX9_gone 4 = .ok (.invokevirtual 293, 3) := by decide +kernel
theorem dX9_gone_7 : decode cX9_gone 7 = .ok (.ifCond .ne 5, 3) := by decide +kernel
theorem dX9_gone_10 : decode cX9_gone 10 = .ok (.iconst (-1), 1) := by decide +kernel
theorem dX9_gone_11 : decode cX9_gone 11 = .ok (.ireturn, 1) := by decide +kernel
theorem dX9_gone_12 : decode cX9_gone 12 = .ok (.aload_n 0, 1) := by decide +kernel
theorem dX9_gone_13 : decode cX9_gone 13 = .ok (.invokevirtual 424, 3) := by decide +kernel
theorem dX9_gone_16 : decode cX9_gone 16 = .ok (.iconst 0, 1) := by decide +kernel
theorem dX9_gone_17 : decode cX9_gone 17 = .ok (.istore_n 2, 1) := by decide +kernel
theorem dX9_gone_18 : decode cX9_gone 18 = .ok (.iload_n 2, 1) := by decide +kernel
theorem dX9_gone_19 : decode cX9_gone 19 = .ok (.aload_n 0, 1) := by decide +kernel
theorem dX9_gone_20 : decode cX9_gone 20 = .ok (.getfield 171, 3) := by decide +kernel
theorem dX9_gone_23 : decode cX9_gone 23 = .ok (.if_icmp .ge 99, 3) := by decide +kernel
theorem dX9_gone_26 : decode cX9_gone 26 = .ok (.aload_n 0, 1) := by decide +kernel
theorem dX9_gone_27 : decode cX9_gone 27 = .ok (.getfield 177, 3) := by decide +kernel
theorem dX9_gone_30 : decode cX9_gone 30 = .ok (.iload_n 2, 1) := by decide +kernel
theorem dX9_gone_31 : decode cX9_gone 31 = .ok (.iaload, 1) := by decide +kernel
theorem dX9_gone_32 : decode cX9_gone 32 = .ok (.ifCond .ne 7, 3) := by decide +kernel
theorem dX9_gone_35 : decode cX9_gone 35 = .ok (.aload_n 0, 1) := by decide +kernel
theorem dX9_gone_36 : decode cX9_gone 36 = .ok (.invokevirtual 415, 3) := by decide +kernel
theorem dX9_gone_39 : decode cX9_gone 39 = .ok (.aload_n 0, 1) := by decide +kernel
theorem dX9_gone_40 : decode cX9_gone 40 = .ok (.aload_n 0, 1) := by decide +kernel
theorem dX9_gone_41 : decode cX9_gone 41 = .ok (.getfield 177, 3) := by decide +kernel
theorem dX9_gone_44 : decode cX9_gone 44 = .ok (.iload_n 2, 1) := by decide +kernel
theorem dX9_gone_45 : decode cX9_gone 45 = .ok (.iaload, 1) := by decide +kernel
theorem dX9_gone_46 : decode cX9_gone 46 = .ok (.iconst 1, 1) := by decide +kernel
theorem dX9_gone_47 : decode cX9_gone 47 = .ok (.iconst 2, 1) := by decide +kernel
theorem dX9_gone_48 : decode cX9_gone 48 = .ok (.invokevirtual 293, 3) := by decide +kernel
theorem dX9_gone_51 : decode cX9_gone 51 = .ok (.ifCond .eq 36, 3) := by decide +kernel
theorem dX9_gone_54 : decode cX9_gone 54 = .ok (.aload_n 0, 1) := by decide +kernel
theorem dX9_gone_55 : decode cX9_gone 55 = .ok (.aload_n 0, 1) := by decide +kernel
theorem dX9_gone_56 : decode cX9_gone 56 = .ok (.aload_n 0, 1) := by decide +kernel
theorem dX9_gone_57 : decode cX9_gone 57 = .ok (.getfield 19, 3) := by decide +kernel
theorem dX9_gone_60 : decode cX9_gone 60 = .ok (.aload_n 0, 1) := by decide +kernel
theorem dX9_gone_61 : decode cX9_gone 61 = .ok (.getfield 180, 3) := by decide +kernel
theorem dX9_gone_64 : decode cX9_gone 64 = .ok (.iload_n 2, 1) := by decide +kernel
theorem dX9_gone_65 : decode cX9_gone 65 = .ok (.iaload, 1) := by decide +kernel
theorem dX9_gone_66 : decode cX9_gone 66 = .ok (.aload_n 0, 1) := by decide +kernel
theorem dX9_gone_67 : decode cX9_gone 67 = .ok (.getfield 177, 3) := by decide +kernel
theorem dX9_gone_70 : decode cX9_gone 70 = .ok (.iload_n 2, 1) := by decide +kernel
theorem dX9_gone_71 : decode cX9_gone 71 = .ok (.iaload, 1) := by decide +kernel
theorem dX9_gone_72 : decode cX9_gone 72 = .ok (.iconst 2, 1) := by decide +kernel
theorem dX9_gone_73 : decode cX9_gone 73 = .ok (.if_icmp .ne 7, 3) := by decide +kernel
theorem dX9_gone_76 : decode cX9_gone 76 = .ok (.iconst 1, 1) := by decide +kernel
theorem dX9_gone_77 : decode cX9_gone 77 = .ok (.goto 4, 3) := by decide +kernel
theorem dX9_gone_80 : decode cX9_gone 80 = .ok (.iconst 0, 1) := by decide +kernel
theorem dX9_gone_81 : decode cX9_gone 81 = .ok (.invokevirtual 301, 3) := by decide +kernel
theorem dX9_gone_84 : decode cX9_gone 84 = .ok (.putfield 19, 3) := by decide +kernel
theorem dX9_gone_87 : decode cX9_gone 87 = .ok (.aload_n 0, 1) := by decide +kernel
theorem dX9_gone_88 : decode cX9_gone 88 = .ok (.getfield 177, 3) := by decide +kernel
theorem dX9_gone_91 : decode cX9_gone 91 = .ok (.iload_n 2, 1) := by decide +kernel
theorem dX9_gone_92 : decode cX9_gone 92 = .ok (.iaload, 1) := by decide +kernel
theorem dX9_gone_93 : decode cX9_gone 93 = .ok (.iconst 3, 1) := by decide +kernel
theorem dX9_gone_94 : decode cX9_gone 94 = .ok (.if_icmp .ne 22, 3) := by decide +kernel
theorem dX9_gone_97 : decode cX9_gone 97 = .ok (.aload_n 0, 1) := by decide +kernel
theorem dX9_gone_98 : decode cX9_gone 98 = .ok (.aload_n 0, 1) := by decide +kernel
theorem dX9_gone_99 : decode cX9_gone 99 = .ok (.aload_n 0, 1) := by decide +kernel
theorem dX9_gone_100 : decode cX9_gone 100 = .ok (.getfield 22, 3) := by decide +kernel
theorem dX9_gone_103 : decode cX9_gone 103 = .ok (.aload_n 0, 1) := by decide +kernel
theorem dX9_gone_104 : decode cX9_gone 104 = .ok (.getfield 180, 3) := by decide +kernel
theorem dX9_gone_107 : decode cX9_gone 107 = .ok (.iload_n 2, 1) := by decide +kernel
theorem dX9_gone_108 : decode cX9_gone 108 = .ok (.iaload, 1) := by decide +kernel
theorem dX9_gone_109 : decode cX9_gone 109 = .ok (.iconst 1, 1) := by decide +kernel
theorem dX9_gone_110 : decode cX9_gone 110 = .ok (.invokevirtual 301, 3) := by decide +kernel
theorem dX9_gone_113 : decode cX9_gone 113 = .ok (.putfield 22, 3) := by decide +kernel
theorem dX9_gone_116 : decode cX9_gone 116 = .ok (.iinc 2 1, 3) := by decide +kernel
theorem dX9_gone_119 : decode cX9_gone 119 = .ok (.goto (-101), 3) := by decide +kernel
theorem dX9_gone_122 : decode cX9_gone 122 = .ok (.iload_n 1, 1) := by decide +kernel
theorem dX9_gone_123 : decode cX9_gone 123 = .ok (.ifCond .ne 10, 3) := by decide +kernel
theorem dX9_gone_126 : decode cX9_gone 126 = .ok (.aload_n 0, 1) := by decide +kernel
theorem dX9_gone_127 : decode cX9_gone 127 = .ok (.getfield 25, 3) := by decide +kernel
theorem dX9_gone_130 : decode cX9_gone 130 = .ok (.goto 7, 3) := by decide +kernel
theorem dX9_gone_133 : decode cX9_gone 133 = .ok (.aload_n 0, 1) := by decide +kernel
theorem dX9_gone_134 : decode cX9_gone 134 = .ok (.getfield 19, 3) := by decide +kernel
theorem dX9_gone_137 : decode cX9_gone 137 = .ok (.istore_n 2, 1) := by decide +kernel
theorem dX9_gone_138 : decode cX9_gone 138 = .ok (.aload_n 0, 1) := by decide +kernel
theorem dX9_gone_139 : decode cX9_gone 139 = .ok (.invokevirtual 427, 3) := by decide +kernel
theorem dX9_gone_142 : decode cX9_gone 142 = .ok (.iload_n 2, 1) := by decide +kernel
theorem dX9_gone_143 : decode cX9_gone 143 = .ok (.ireturn, 1) := by decide +kernel
theorem dX9_book_0 : decode cX9_book 0 = .ok (.iload_n 1, 1) := by decide +kernel
theorem dX9_book_1 : decode cX9_book 1 = .ok (.iconst (-1), 1) := by decide +kernel
theorem dX9_book_2 : decode cX9_book 2 = .ok (.if_icmp .ne 10, 3) := by decide +kernel
theorem dX9_book_5 : decode cX9_book 5 = .ok (.aload_n 0, 1) := by decide +kernel
theorem dX9_book_6 : decode cX9_book 6 = .ok (.iconst 0, 1) := by decide +kernel
theorem dX9_book_7 : decode cX9_book 7 = .ok (.putfield 174, 3) := by decide +kernel
theorem dX9_book_10 : decode cX9_book 10 = .ok (.iconst 0, 1) := by decide +kernel
theorem dX9_book_11 : decode cX9_book 11 = .ok (.ireturn, 1) := by decide +kernel
theorem dX9_book_12 : decode cX9_book 12 = .ok (.aload_n 0, 1) := by decide +kernel
theorem dX9_book_13 : decode cX9_book 13 = .ok (.iload_n 1, 1) := by decide +kernel
theorem dX9_book_14 : decode cX9_book 14 = .ok (.invokevirtual 305, 3) := by decide +kernel
theorem dX9_book_17 : decode cX9_book 17 = .ok (.ifCond .ne 5, 3) := by decide +kernel
theorem dX9_book_20 : decode cX9_book 20 = .ok (.iconst (-1), 1) := by decide +kernel
theorem dX9_book_21 : decode cX9_book 21 = .ok (.ireturn, 1) := by decide +kernel
theorem dX9_book_22 : decode cX9_book 22 = .ok (.aload_n 0, 1) := by decide +kernel
theorem dX9_book_23 : decode cX9_book 23 = .ok (.iload_n 2, 1) := by decide +kernel
theorem dX9_book_24 : decode cX9_book 24 = .ok (.invokevirtual 297, 3) := by decide +kernel
theorem dX9_book_27 : decode cX9_book 27 = .ok (.ifCond .ne 6, 3) := by decide +kernel
theorem dX9_book_30 : decode cX9_book 30 = .ok (.bipush (-2), 2) := by decide +kernel
theorem dX9_book_32 : decode cX9_book 32 = .ok (.ireturn, 1) := by decide +kernel
theorem dX9_book_33 : decode cX9_book 33 = .ok (.aload_n 0, 1) := by decide +kernel
theorem dX9_book_34 : decode cX9_book 34 = .ok (.getfield 174, 3) := by decide +kernel
theorem dX9_book_37 : decode cX9_book 37 = .ok (.bipush 8, 2) := by decide +kernel
theorem dX9_book_39 : decode cX9_book 39 = .ok (.if_icmp .ne 6, 3) := by decide +kernel
theorem dX9_book_42 : decode cX9_book 42 = .ok (.bipush (-4), 2) := by decide +kernel
theorem dX9_book_44 : decode cX9_book 44 = .ok (.ireturn, 1) := by decide +kernel
theorem dX9_book_45 : decode cX9_book 45 = .ok (.aload_n 0, 1) := by decide +kernel
theorem dX9_book_46 : decode cX9_book 46 = .ok (.getfield 183, 3) := by decide +kernel
theorem dX9_book_49 : decode cX9_book 49 = .ok (.aload_n 0, 1) := by decide +kernel
theorem dX9_book_50 : decode cX9_book 50 = .ok (.getfield 174, 3) := by decide +kernel
theorem dX9_book_53 : decode cX9_book 53 = .ok (.iload_n 1, 1) := by decide +kernel
theorem dX9_book_54 : decode cX9_book 54 = .ok (.iastore, 1) := by decide +kernel
theorem dX9_book_55 : decode cX9_book 55 = .ok (.aload_n 0, 1) := by decide +kernel
theorem dX9_book_56 : decode cX9_book 56 = .ok (.getfield 186, 3) := by decide +kernel
theorem dX9_book_59 : decode cX9_book 59 = .ok (.aload_n 0, 1) := by decide +kernel
theorem dX9_book_60 : decode cX9_book 60 = .ok (.getfield 174, 3) := by decide +kernel
theorem dX9_book_63 : decode cX9_book 63 = .ok (.iload_n 2, 1) := by decide +kernel
theorem dX9_book_64 : decode cX9_book 64 = .ok (.iastore, 1) := by decide +kernel
theorem dX9_book_65 : decode cX9_book 65 = .ok (.aload_n 0, 1) := by decide +kernel
theorem dX9_book_66 : decode cX9_book 66 = .ok (.dup, 1) := by decide +kernel
theorem dX9_book_67 : decode cX9_book 67 = .ok (.getfield 174, 3) := by decide +kernel
theorem dX9_book_70 : decode cX9_book 70 = .ok (.iconst 1, 1) := by decide +kernel
theorem dX9_book_71 : decode cX9_book 71 = .ok (.iadd, 1) := by decide +kernel
theorem dX9_book_72 : decode cX9_book 72 = .ok (.putfield 174, 3) := by decide +kernel
theorem dX9_book_75 : decode cX9_book 75 = .ok (.aload_n 0, 1) := by decide +kernel
theorem dX9_book_76 : decode cX9_book 76 = .ok (.getfield 174, 3) := by decide +kernel
theorem dX9_book_79 : decode cX9_book 79 = .ok (.ireturn, 1) := by decide +kernel
theorem dX9_looked_0 : decode cX9_looked 0 = .ok (.iconst 0, 1) := by decide +kernel
theorem dX9_looked_1 : decode cX9_looked 1 = .ok (.istore_n 1, 1) := by decide +kernel
theorem dX9_looked_2 : decode cX9_looked 2 = .ok (.iload_n 1, 1) := by decide +kernel
theorem dX9_looked_3 : decode cX9_looked 3 = .ok (.aload_n 0, 1) := by decide +kernel
theorem dX9_looked_4 : decode cX9_looked 4 = .ok (.getfield 174, 3) := by decide +kernel
theorem dX9_looked_7 : decode cX9_looked 7 = .ok (.if_icmp .ge 31, 3) := by decide +kernel
theorem dX9_looked_10 : decode cX9_looked 10 = .ok (.aload_n 0, 1) := by decide +kernel
theorem dX9_looked_11 : decode cX9_looked 11 = .ok (.getfield 47, 3) := by decide +kernel
theorem dX9_looked_14 : decode cX9_looked 14 = .ok (.aload_n 0, 1) := by decide +kernel
theorem dX9_looked_15 : decode cX9_looked 15 = .ok (.getfield 183, 3) := by decide +kernel
theorem dX9_looked_18 : decode cX9_looked 18 = .ok (.iload_n 1, 1) := by decide +kernel
theorem dX9_looked_19 : decode cX9_looked 19 = .ok (.iaload, 1) := by decide +kernel
theorem dX9_looked_20 : decode cX9_looked 20 = .ok (.iaload, 1) := by decide +kernel
theorem dX9_looked_21 : decode cX9_looked 21 = .ok (.aload_n 0, 1) := by decide +kernel
theorem dX9_looked_22 : decode cX9_looked 22 = .ok (.getfield 186, 3) := by decide +kernel
theorem dX9_looked_25 : decode cX9_looked 25 = .ok (.iload_n 1, 1) := by decide +kernel
theorem dX9_looked_26 : decode cX9_looked 26 = .ok (.iaload, 1) := by decide +kernel
theorem dX9_looked_27 : decode cX9_looked 27 = .ok (.if_icmp .eq 5, 3) := by decide +kernel
theorem dX9_looked_30 : decode cX9_looked 30 = .ok (.iload_n 1, 1) := by decide +kernel
theorem dX9_looked_31 : decode cX9_looked 31 = .ok (.ireturn, 1) := by decide +kernel
theorem dX9_looked_32 : decode cX9_looked 32 = .ok (.iinc 1 1, 3) := by decide +kernel
theorem dX9_looked_35 : decode cX9_looked 35 = .ok (.goto (-33), 3) := by decide +kernel
theorem dX9_looked_38 : decode cX9_looked 38 = .ok (.bipush (-5), 2) := by decide +kernel
theorem dX9_looked_40 : decode cX9_looked 40 = .ok (.ireturn, 1) := by decide +kernel
theorem dX9_judge_0 : decode cX9_judge 0 = .ok (.aload_n 0, 1) := by decide +kernel
theorem dX9_judge_1 : decode cX9_judge 1 = .ok (.iload_n 1, 1) := by decide +kernel
theorem dX9_judge_2 : decode cX9_judge 2 = .ok (.invokevirtual 469, 3) := by decide +kernel
theorem dX9_judge_5 : decode cX9_judge 5 = .ok (.ifCond .ne 5, 3) := by decide +kernel
theorem dX9_judge_8 : decode cX9_judge 8 = .ok (.iconst (-1), 1) := by decide +kernel
theorem dX9_judge_9 : decode cX9_judge 9 = .ok (.ireturn, 1) := by decide +kernel
theorem dX9_judge_10 : decode cX9_judge 10 = .ok (.aload_n 0, 1) := by decide +kernel
theorem dX9_judge_11 : decode cX9_judge 11 = .ok (.getfield 280, 3) := by decide +kernel
theorem dX9_judge_14 : decode cX9_judge 14 = .ok (.iload_n 1, 1) := by decide +kernel
theorem dX9_judge_15 : decode cX9_judge 15 = .ok (.iaload, 1) := by decide +kernel
theorem dX9_judge_16 : decode cX9_judge 16 = .ok (.ifCond .le 6, 3) := by decide +kernel
theorem dX9_judge_19 : decode cX9_judge 19 = .ok (.bipush (-12), 2) := by decide +kernel
theorem dX9_judge_21 : decode cX9_judge 21 = .ok (.ireturn, 1) := by decide +kernel
theorem dX9_judge_22 : decode cX9_judge 22 = .ok (.iconst 0, 1) := by decide +kernel
theorem dX9_judge_23 : decode cX9_judge 23 = .ok (.istore_n 3, 1) := by decide +kernel
theorem dX9_judge_24 : decode cX9_judge 24 = .ok (.iload_n 3, 1) := by decide +kernel
theorem dX9_judge_25 : decode cX9_judge 25 = .ok (.aload_n 0, 1) := by decide +kernel
theorem dX9_judge_26 : decode cX9_judge 26 = .ok (.getfield 13, 3) := by decide +kernel
theorem dX9_judge_29 : decode cX9_judge 29 = .ok (.if_icmp .ge 67, 3) := by decide +kernel
theorem dX9_judge_32 : decode cX9_judge 32 = .ok (.aload_n 0, 1) := by decide +kernel
theorem dX9_judge_33 : decode cX9_judge 33 = .ok (.getfield 280, 3) := by decide +kernel
theorem dX9_judge_36 : decode cX9_judge 36 = .ok (.iload_n 1, 1) := by decide +kernel
theorem dX9_judge_37 : decode cX9_judge 37 = .ok (.iaload, 1) := by decide +kernel
theorem dX9_judge_38 : decode cX9_judge 38 = .ok (.ifCond .lt 21, 3) := by decide +kernel
theorem dX9_judge_41 : decode cX9_judge 41 = .ok (.iload_n 2, 1) := by decide +kernel
theorem dX9_judge_42 : decode cX9_judge 42 = .ok (.ifCond .lt 17, 3) := by decide +kernel
theorem dX9_judge_45 : decode cX9_judge 45 = .ok (.iload_n 2, 1) := by decide +kernel
theorem dX9_judge_46 : decode cX9_judge 46 = .ok (.aload_n 0, 1) := by decide +kernel
theorem dX9_judge_47 : decode cX9_judge 47 = .ok (.getfield 283, 3) := by decide +kernel
theorem dX9_judge_50 : decode cX9_judge 50 = .ok (.iload_n 1, 1) := by decide +kernel
theorem dX9_judge_51 : decode cX9_judge 51 = .ok (.iaload, 1) := by decide +kernel
theorem dX9_judge_52 : decode cX9_judge 52 = .ok (.iload_n 3, 1) := by decide +kernel
theorem dX9_judge_53 : decode cX9_judge 53 = .ok (.isub, 1) := by decide +kernel
theorem dX9_judge_54 : decode cX9_judge 54 = .ok (.iconst 1, 1) := by decide +kernel
theorem dX9_judge_55 : decode cX9_judge 55 = .ok (.isub, 1) := by decide +kernel
theorem dX9_judge_56 : decode cX9_judge 56 = .ok (.if_icmp .le 8, 3) := by decide +kernel
theorem dX9_judge_59 : decode cX9_judge 59 = .ok (.bipush 100, 2) := by decide +kernel
theorem dX9_judge_61 : decode cX9_judge 61 = .ok (.iload_n 3, 1) := by decide +kernel
theorem dX9_judge_62 : decode cX9_judge 62 = .ok (.iadd, 1) := by decide +kernel
theorem dX9_judge_63 : decode cX9_judge 63 = .ok (.ireturn, 1) := by decide +kernel
theorem dX9_judge_64 : decode cX9_judge 64 = .ok (.aload_n 0, 1) := by decide +kernel
theorem dX9_judge_65 : decode cX9_judge 65 = .ok (.getfield 286, 3) := by decide +kernel
theorem dX9_judge_68 : decode cX9_judge 68 = .ok (.bipush 60, 2) := by decide +kernel
theorem dX9_judge_70 : decode cX9_judge 70 = .ok (.iload_n 1, 1) := by decide +kernel
theorem dX9_judge_71 : decode cX9_judge 71 = .ok (.imul, 1) := by decide +kernel
theorem dX9_judge_72 : decode cX9_judge 72 = .ok (.iload_n 2, 1) := by decide +kernel
theorem dX9_judge_73 : decode cX9_judge 73 = .ok (.iadd, 1) := by decide +kernel
theorem dX9_judge_74 : decode cX9_judge 74 = .ok (.iload_n 3, 1) := by decide +kernel
theorem dX9_judge_75 : decode cX9_judge 75 = .ok (.iadd, 1) := by decide +kernel
theorem dX9_judge_76 : decode cX9_judge 76 = .ok (.laload, 1) := by decide +kernel
theorem dX9_judge_77 : decode cX9_judge 77 = .ok (.aload_n 0, 1) := by decide +kernel
theorem dX9_judge_78 : decode cX9_judge 78 = .ok (.getfield 47, 3) := by decide +kernel
theorem dX9_judge_81 : decode cX9_judge 81 = .ok (.iload_n 3, 1) := by decide +kernel
theorem dX9_judge_82 : decode cX9_judge 82 = .ok (.iaload, 1) := by decide +kernel
theorem dX9_judge_83 : decode cX9_judge 83 = .ok (.i2l, 1) := by decide +kernel
theorem dX9_judge_84 : decode cX9_judge 84 = .ok (.lcmp, 1) := by decide +kernel
theorem dX9_judge_85 : decode cX9_judge 85 = .ok (.ifCond .eq 5, 3) := by decide +kernel
theorem dX9_judge_88 : decode cX9_judge 88 = .ok (.iload_n 3, 1) := by decide +kernel
theorem dX9_judge_89 : decode cX9_judge 89 = .ok (.ireturn, 1) := by decide +kernel
theorem dX9_judge_90 : decode cX9_judge 90 = .ok (.iinc 3 1, 3) := by decide +kernel
theorem dX9_judge_93 : decode cX9_judge 93 = .ok (.goto (-69), 3) := by decide +kernel
theorem dX9_judge_96 : decode cX9_judge 96 = .ok (.bipush (-5), 2) := by decide +kernel
theorem dX9_judge_98 : decode cX9_judge 98 = .ok (.ireturn, 1) := by decide +kernel
theorem dX9_image_0 : decode cX9_image 0 = .ok (.aload_n 0, 1) := by decide +kernel
theorem dX9_image_1 : decode cX9_image 1 = .ok (.iconst 1, 1) := by decide +kernel
theorem dX9_image_2 : decode cX9_image 2 = .ok (.putfield 189, 3) := by decide +kernel
theorem dX9_image_5 : decode cX9_image 5 = .ok (.aload_n 0, 1) := by decide +kernel
theorem dX9_image_6 : decode cX9_image 6 = .ok (.aload_n 0, 1) := by decide +kernel
theorem dX9_image_7 : decode cX9_image 7 = .ok (.getfield 62, 3) := by decide +kernel
theorem dX9_image_10 : decode cX9_image 10 = .ok (.putfield 193, 3) := by decide +kernel
theorem dX9_image_13 : decode cX9_image 13 = .ok (.aload_n 0, 1) := by decide +kernel
theorem dX9_image_14 : decode cX9_image 14 = .ok (.aload_n 0, 1) := by decide +kernel
theorem dX9_image_15 : decode cX9_image 15 = .ok (.getfield 7, 3) := by decide +kernel
theorem dX9_image_18 : decode cX9_image 18 = .ok (.putfield 196, 3) := by decide +kernel
theorem dX9_image_21 : decode cX9_image 21 = .ok (.aload_n 0, 1) := by decide +kernel
theorem dX9_image_22 : decode cX9_image 22 = .ok (.aload_n 0, 1) := by decide +kernel
theorem dX9_image_23 : decode cX9_image 23 = .ok (.getfield 13, 3) := by decide +kernel
theorem dX9_image_26 : decode cX9_image 26 = .ok (.putfield 199, 3) := by decide +kernel
theorem dX9_image_29 : decode cX9_image 29 = .ok (.aload_n 0, 1) := by decide +kernel
theorem dX9_image_30 : decode cX9_image 30 = .ok (.aload_n 0, 1) := by decide +kernel
theorem dX9_image_31 : decode cX9_image 31 = .ok (.getfield 16, 3) := by decide +kernel
theorem dX9_image_34 : decode cX9_image 34 = .ok (.putfield 202, 3) := by decide +kernel
theorem dX9_image_37 : decode cX9_image 37 = .ok (.aload_n 0, 1) := by decide +kernel
theorem dX9_image_38 : decode cX9_image 38 = .ok (.aload_n 0, 1) := by decide +kernel
theorem dX9_image_39 : decode cX9_image 39 = .ok (.getfield 19, 3) := by decide +kernel
theorem dX9_image_42 : decode cX9_image 42 = .ok (.putfield 205, 3) := by decide +kernel
theorem dX9_image_45 : decode cX9_image 45 = .ok (.aload_n 0, 1) := by decide +kernel
theorem dX9_image_46 : decode cX9_image 46 = .ok (.aload_n 0, 1) := by decide +kernel
theorem dX9_image_47 : decode cX9_image 47 = .ok (.getfield 22, 3) := by decide +kernel
theorem dX9_image_50 : decode cX9_image 50 = .ok (.putfield 208, 3) := by decide +kernel
theorem dX9_image_53 : decode cX9_image 53 = .ok (.aload_n 0, 1) := by decide +kernel
theorem dX9_image_54 : decode cX9_image 54 = .ok (.aload_n 0, 1) := by decide +kernel
theorem dX9_image_55 : decode cX9_image 55 = .ok (.getfield 25, 3) := by decide +kernel
theorem dX9_image_58 : decode cX9_image 58 = .ok (.putfield 211, 3) := by decide +kernel
theorem dX9_image_61 : decode cX9_image 61 = .ok (.aload_n 0, 1) := by decide +kernel
theorem dX9_image_62 : decode cX9_image 62 = .ok (.aload_n 0, 1) := by decide +kernel
theorem dX9_image_63 : decode cX9_image 63 = .ok (.getfield 28, 3) := by decide +kernel
theorem dX9_image_66 : decode cX9_image 66 = .ok (.putfield 214, 3) := by decide +kernel
theorem dX9_image_69 : decode cX9_image 69 = .ok (.aload_n 0, 1) := by decide +kernel
theorem dX9_image_70 : decode cX9_image 70 = .ok (.aload_n 0, 1) := by decide +kernel
theorem dX9_image_71 : decode cX9_image 71 = .ok (.getfield 31, 3) := by decide +kernel
theorem dX9_image_74 : decode cX9_image 74 = .ok (.putfield 217, 3) := by decide +kernel
theorem dX9_image_77 : decode cX9_image 77 = .ok (.aload_n 0, 1) := by decide +kernel
theorem dX9_image_78 : decode cX9_image 78 = .ok (.aload_n 0, 1) := by decide +kernel
theorem dX9_image_79 : decode cX9_image 79 = .ok (.getfield 34, 3) := by decide +kernel
theorem dX9_image_82 : decode cX9_image 82 = .ok (.putfield 220, 3) := by decide +kernel
theorem dX9_image_85 : decode cX9_image 85 = .ok (.aload_n 0, 1) := by decide +kernel
theorem dX9_image_86 : decode cX9_image 86 = .ok (.aload_n 0, 1) := by decide +kernel
theorem dX9_image_87 : decode cX9_image 87 = .ok (.getfield 159, 3) := by decide +kernel
theorem dX9_image_90 : decode cX9_image 90 = .ok (.putfield 223, 3) := by decide +kernel
theorem dX9_image_93 : decode cX9_image 93 = .ok (.aload_n 0, 1) := by decide +kernel
theorem dX9_image_94 : decode cX9_image 94 = .ok (.aload_n 0, 1) := by decide +kernel
theorem dX9_image_95 : decode cX9_image 95 = .ok (.getfield 171, 3) := by decide +kernel
theorem dX9_image_98 : decode cX9_image 98 = .ok (.putfield 226, 3) := by decide +kernel
theorem dX9_image_101 : decode cX9_image 101 = .ok (.aload_n 0, 1) := by decide +kernel
theorem dX9_image_102 : decode cX9_image 102 = .ok (.aload_n 0, 1) := by decide +kernel
theorem dX9_image_103 : decode cX9_image 103 = .ok (.getfield 174, 3) := by decide +kernel
theorem dX9_image_106 : decode cX9_image 106 = .ok (.putfield 229, 3) := by decide +kernel
theorem dX9_image_109 : decode cX9_image 109 = .ok (.iconst 0, 1) := by decide +kernel
theorem dX9_image_110 : decode cX9_image 110 = .ok (.istore_n 1, 1) := by decide +kernel
theorem dX9_image_111 : decode cX9_image 111 = .ok (.iload_n 1, 1) := by decide +kernel
theorem dX9_image_112 : decode cX9_image 112 = .ok (.bipush 6, 2) := by decide +kernel
theorem dX9_image_114 : decode cX9_image 114 = .ok (.if_icmp .ge 81, 3) := by decide +kernel
theorem dX9_image_117 : decode cX9_image 117 = .ok (.aload_n 0, 1) := by decide +kernel
theorem dX9_image_118 : decode cX9_image 118 = .ok (.getfield 232, 3) := by decide +kernel
theorem dX9_image_121 : decode cX9_image 121 = .ok (.iload_n 1, 1) := by decide +kernel
theorem dX9_image_122 : decode cX9_image 122 = .ok (.aload_n 0, 1) := by decide +kernel
theorem dX9_image_123 : decode cX9_image 123 = .ok (.getfield 37, 3) := by decide +kernel
theorem dX9_image_126 : decode cX9_image 126 = .ok (.iload_n 1, 1) := by decide +kernel
theorem dX9_image_127 : decode cX9_image 127 = .ok (.iaload, 1) := by decide +kernel
theorem dX9_image_128 : decode cX9_image 128 = .ok (.iastore, 1) := by decide +kernel
theorem dX9_image_129 : decode cX9_image 129 = .ok (.aload_n 0, 1) := by decide +kernel
theorem dX9_image_130 : decode cX9_image 130 = .ok (.getfield 235, 3) := by decide +kernel
theorem dX9_image_133 : decode cX9_image 133 = .ok (.iload_n 1, 1) := by decide +kernel
theorem dX9_image_134 : decode cX9_image 134 = .ok (.aload_n 0, 1) := by decide +kernel
theorem dX9_image_135 : decode cX9_image 135 = .ok (.getfield 41, 3) := by decide +kernel
theorem dX9_image_138 : decode cX9_image 138 = .ok (.iload_n 1, 1) := by decide +kernel
theorem dX9_image_139 : decode cX9_image 139 = .ok (.iaload, 1) := by decide +kernel
theorem dX9_image_140 : decode cX9_image 140 = .ok (.iastore, 1) := by decide +kernel
theorem dX9_image_141 : decode cX9_image 141 = .ok (.aload_n 0, 1) := by decide +kernel
theorem dX9_image_142 : decode cX9_image 142 = .ok (.getfield 238, 3) := by decide +kernel
theorem dX9_image_145 : decode cX9_image 145 = .ok (.iload_n 1, 1) := by decide +kernel
theorem dX9_image_146 : decode cX9_image 146 = .ok (.aload_n 0, 1) := by decide +kernel
theorem dX9_image_147 : decode cX9_image 147 = .ok (.getfield 44, 3) := by decide +kernel
theorem dX9_image_150 : decode cX9_image 150 = .ok (.iload_n 1, 1) := by decide +kernel
theorem dX9_image_151 : decode cX9_image 151 = .ok (.iaload, 1) := by decide +kernel
theorem dX9_image_152 : decode cX9_image 152 = .ok (.iastore, 1) := by decide +kernel
theorem dX9_image_153 : decode cX9_image 153 = .ok (.aload_n 0, 1) := by decide +kernel
theorem dX9_image_154 : decode cX9_image 154 = .ok (.getfield 241, 3) := by decide +kernel
theorem dX9_image_157 : decode cX9_image 157 = .ok (.iload_n 1, 1) := by decide +kernel
theorem dX9_image_158 : decode cX9_image 158 = .ok (.aload_n 0, 1) := by decide +kernel
theorem dX9_image_159 : decode cX9_image 159 = .ok (.getfield 47, 3) := by decide +kernel
theorem dX9_image_162 : decode cX9_image 162 = .ok (.iload_n 1, 1) := by decide +kernel
theorem dX9_image_163 : decode cX9_image 163 = .ok (.iaload, 1) := by decide +kernel
theorem dX9_image_164 : decode cX9_image 164 = .ok (.iastore, 1) := by decide +kernel
theorem dX9_image_165 : decode cX9_image 165 = .ok (.aload_n 0, 1) := by decide +kernel
theorem dX9_image_166 : decode cX9_image 166 = .ok (.getfield 244, 3) := by decide +kernel
theorem dX9_image_169 : decode cX9_image 169 = .ok (.iload_n 1, 1) := by decide +kernel
theorem dX9_image_170 : decode cX9_image 170 = .ok (.aload_n 0, 1) := by decide +kernel
theorem dX9_image_171 : decode cX9_image 171 = .ok (.getfield 50, 3) := by decide +kernel
theorem dX9_image_174 : decode cX9_image 174 = .ok (.iload_n 1, 1) := by decide +kernel
theorem dX9_image_175 : decode cX9_image 175 = .ok (.iaload, 1) := by decide +kernel
theorem dX9_image_176 : decode cX9_image 176 = .ok (.iastore, 1) := by decide +kernel
theorem dX9_image_177 : decode cX9_image 177 = .ok (.aload_n 0, 1) := by decide +kernel
theorem dX9_image_178 : decode cX9_image 178 = .ok (.getfield 247, 3) := by decide +kernel
theorem dX9_image_181 : decode cX9_image 181 = .ok (.iload_n 1, 1) := by decide +kernel
theorem dX9_image_182 : decode cX9_image 182 = .ok (.aload_n 0, 1) := by decide +kernel
theorem dX9_image_183 : decode cX9_image 183 = .ok (.getfield 56, 3) := by decide +kernel
theorem dX9_image_186 : decode cX9_image 186 = .ok (.iload_n 1, 1) := by decide +kernel
theorem dX9_image_187 : decode cX9_image 187 = .ok (.iaload, 1) := by decide +kernel
theorem dX9_image_188 : decode cX9_image 188 = .ok (.iastore, 1) := by decide +kernel
theorem dX9_image_189 : decode cX9_image 189 = .ok (.iinc 1 1, 3) := by decide +kernel
theorem dX9_image_192 : decode cX9_image 192 = .ok (.goto (-81), 3) := by decide +kernel
theorem dX9_image_195 : decode cX9_image 195 = .ok (.iconst 0, 1) := by decide +kernel
theorem dX9_image_196 : decode cX9_image 196 = .ok (.istore_n 1, 1) := by decide +kernel
theorem dX9_image_197 : decode cX9_image 197 = .ok (.iload_n 1, 1) := by decide +kernel
theorem dX9_image_198 : decode cX9_image 198 = .ok (.bipush 24, 2) := by decide +kernel
theorem dX9_image_200 : decode cX9_image 200 = .ok (.if_icmp .ge 21, 3) := by decide +kernel
theorem dX9_image_203 : decode cX9_image 203 = .ok (.aload_n 0, 1) := by decide +kernel
theorem dX9_image_204 : decode cX9_image 204 = .ok (.getfield 250, 3) := by decide +kernel
theorem dX9_image_207 : decode cX9_image 207 = .ok (.iload_n 1, 1) := by decide +kernel
theorem dX9_image_208 : decode cX9_image 208 = .ok (.aload_n 0, 1) := by decide +kernel
theorem dX9_image_209 : decode cX9_image 209 = .ok (.getfield 53, 3) := by decide +kernel
theorem dX9_image_212 : decode cX9_image 212 = .ok (.iload_n 1, 1) := by decide +kernel
theorem dX9_image_213 : decode cX9_image 213 = .ok (.iaload, 1) := by decide +kernel
theorem dX9_image_214 : decode cX9_image 214 = .ok (.iastore, 1) := by decide +kernel
theorem dX9_image_215 : decode cX9_image 215 = .ok (.iinc 1 1, 3) := by decide +kernel
theorem dX9_image_218 : decode cX9_image 218 = .ok (.goto (-21), 3) := by decide +kernel
theorem dX9_image_221 : decode cX9_image 221 = .ok (.iconst 0, 1) := by decide +kernel
theorem dX9_image_222 : decode cX9_image 222 = .ok (.istore_n 1, 1) := by decide +kernel
theorem dX9_image_223 : decode cX9_image 223 = .ok (.iload_n 1, 1) := by decide +kernel
theorem dX9_image_224 : decode cX9_image 224 = .ok (.iconst 5, 1) := by decide +kernel
theorem dX9_image_225 : decode cX9_image 225 = .ok (.if_icmp .ge 45, 3) := by decide +kernel
theorem dX9_image_228 : decode cX9_image 228 = .ok (.aload_n 0, 1) := by decide +kernel
theorem dX9_image_229 : decode cX9_image 229 = .ok (.getfield 253, 3) := by decide +kernel
theorem dX9_image_232 : decode cX9_image 232 = .ok (.iload_n 1, 1) := by decide +kernel
theorem dX9_image_233 : decode cX9_image 233 = .ok (.aload_n 0, 1) := by decide +kernel
theorem dX9_image_234 : decode cX9_image 234 = .ok (.getfield 162, 3) := by decide +kernel
theorem dX9_image_237 : decode cX9_image 237 = .ok (.iload_n 1, 1) := by decide +kernel
theorem dX9_image_238 : decode cX9_image 238 = .ok (.iaload, 1) := by decide +kernel
theorem dX9_image_239 : decode cX9_image 239 = .ok (.iastore, 1) := by decide +kernel
theorem dX9_image_240 : decode cX9_image 240 = .ok (.aload_n 0, 1) := by decide +kernel
theorem dX9_image_241 : decode cX9_image 241 = .ok (.getfield 256, 3) := by decide +kernel
theorem dX9_image_244 : decode cX9_image 244 = .ok (.iload_n 1, 1) := by decide +kernel
theorem dX9_image_245 : decode cX9_image 245 = .ok (.aload_n 0, 1) := by decide +kernel
theorem dX9_image_246 : decode cX9_image 246 = .ok (.getfield 165, 3) := by decide +kernel
theorem dX9_image_249 : decode cX9_image 249 = .ok (.iload_n 1, 1) := by decide +kernel
theorem dX9_image_250 : decode cX9_image 250 = .ok (.iaload, 1) := by decide +kernel
theorem dX9_image_251 : decode cX9_image 251 = .ok (.iastore, 1) := by decide +kernel
theorem dX9_image_252 : decode cX9_image 252 = .ok (.aload_n 0, 1) := by decide +kernel
theorem dX9_image_253 : decode cX9_image 253 = .ok (.getfield 271, 3) := by decide +kernel
theorem dX9_image_256 : decode cX9_image 256 = .ok (.iload_n 1, 1) := by decide +kernel
theorem dX9_image_257 : decode cX9_image 257 = .ok (.aload_n 0, 1) := by decide +kernel
theorem dX9_image_258 : decode cX9_image 258 = .ok (.getfield 168, 3) := by decide +kernel
theorem dX9_image_261 : decode cX9_image 261 = .ok (.iload_n 1, 1) := by decide +kernel
theorem dX9_image_262 : decode cX9_image 262 = .ok (.baload, 1) := by decide +kernel
theorem dX9_image_263 : decode cX9_image 263 = .ok (.bastore, 1) := by decide +kernel
theorem dX9_image_264 : decode cX9_image 264 = .ok (.iinc 1 1, 3) := by decide +kernel
theorem dX9_image_267 : decode cX9_image 267 = .ok (.goto (-44), 3) := by decide +kernel
theorem dX9_image_270 : decode cX9_image 270 = .ok (.iconst 0, 1) := by decide +kernel
theorem dX9_image_271 : decode cX9_image 271 = .ok (.istore_n 1, 1) := by decide +kernel
theorem dX9_image_272 : decode cX9_image 272 = .ok (.iload_n 1, 1) := by decide +kernel
theorem dX9_image_273 : decode cX9_image 273 = .ok (.bipush 10, 2) := by decide +kernel
theorem dX9_image_275 : decode cX9_image 275 = .ok (.if_icmp .ge 33, 3) := by decide +kernel
theorem dX9_image_278 : decode cX9_image 278 = .ok (.aload_n 0, 1) := by decide +kernel
theorem dX9_image_279 : decode cX9_image 279 = .ok (.getfield 259, 3) := by decide +kernel
theorem dX9_image_282 : decode cX9_image 282 = .ok (.iload_n 1, 1) := by decide +kernel
theorem dX9_image_283 : decode cX9_image 283 = .ok (.aload_n 0, 1) := by decide +kernel
theorem dX9_image_284 : decode cX9_image 284 = .ok (.getfield 177, 3) := by decide +kernel
theorem dX9_image_287 : decode cX9_image 287 = .ok (.iload_n 1, 1) := by decide +kernel
theorem dX9_image_288 : decode cX9_image 288 = .ok (.iaload, 1) := by decide +kernel
theorem dX9_image_289 : decode cX9_image 289 = .ok (.iastore, 1) := by decide +kernel
theorem dX9_image_290 : decode cX9_image 290 = .ok (.aload_n 0, 1) := by decide +kernel
theorem dX9_image_291 : decode cX9_image 291 = .ok (.getfield 262, 3) := by decide +kernel
theorem dX9_image_294 : decode cX9_image 294 = .ok (.iload_n 1, 1) := by decide +kernel
theorem dX9_image_295 : decode cX9_image 295 = .ok (.aload_n 0, 1) := by decide +kernel
theorem dX9_image_296 : decode cX9_image 296 = .ok (.getfield 180, 3) := by decide +kernel
theorem dX9_image_299 : decode cX9_image 299 = .ok (.iload_n 1, 1) := by decide +kernel
theorem dX9_image_300 : decode cX9_image 300 = .ok (.iaload, 1) := by decide +kernel
theorem dX9_image_301 : decode cX9_image 301 = .ok (.iastore, 1) := by decide +kernel
theorem dX9_image_302 : decode cX9_image 302 = .ok (.iinc 1 1, 3) := by decide +kernel
theorem dX9_image_305 : decode cX9_image 305 = .ok (.goto (-33), 3) := by decide +kernel
theorem dX9_image_308 : decode cX9_image 308 = .ok (.iconst 0, 1) := by decide +kernel
theorem dX9_image_309 : decode cX9_image 309 = .ok (.istore_n 1, 1) := by decide +kernel
theorem dX9_image_310 : decode cX9_image 310 = .ok (.iload_n 1, 1) := by decide +kernel
theorem dX9_image_311 : decode cX9_image 311 = .ok (.bipush 8, 2) := by decide +kernel
end
section
theorem dX9_image_313 : decode cX9_image 313 = .ok (.if_icmp .ge 33, 3) := by decide +kernel
theorem dX9_image_316 : decode cX9_image 316 = .ok (.aload_n 0, 1) := by decide +kernel
theorem dX9_image_317 : decode cX9_image 317 = .ok (.getfield 265, 3) := by decide +kernel
theorem dX9_image_320 : decode cX9_image 320 = .ok (.iload_n 1, 1) := by decide +kernel
theorem dX9_image_321 : decode cX9_image 321 = .ok (.aload_n 0, 1) := by decide +kernel
theorem dX9_image_322 : decode cX9_image 322 = .ok (.getfield 183, 3) := by decide +kernel
theorem dX9_image_325 : decode cX9_image 325 = .ok (.iload_n 1, 1) := by decide +kernel
theorem dX9_image_326 : decode cX9_image 326 = .ok (.iaload, 1) := by decide +kernel
theorem dX9_image_327 : decode cX9_image 327 = .ok (.iastore, 1) := by decide +kernel
theorem dX9_image_328 : decode cX9_image 328 = .ok (.aload_n 0, 1) := by decide +kernel
theorem dX9_image_329 : decode cX9_image 329 = .ok (.getfield 268, 3) := by decide +kernel
theorem dX9_image_332 : decode cX9_image 332 = .ok (.iload_n 1, 1) := by decide +kernel
theorem dX9_image_333 : decode cX9_image 333 = .ok (.aload_n 0, 1) := by decide +kernel
theorem dX9_image_334 : decode cX9_image 334 = .ok (.getfield 186, 3) := by decide +kernel
theorem dX9_image_337 : decode cX9_image 337 = .ok (.iload_n 1, 1) := by decide +kernel
theorem dX9_image_338 : decode cX9_image 338 = .ok (.iaload, 1) := by decide +kernel
theorem dX9_image_339 : decode cX9_image 339 = .ok (.iastore, 1) := by decide +kernel
theorem dX9_image_340 : decode cX9_image 340 = .ok (.iinc 1 1, 3) := by decide +kernel
theorem dX9_image_343 : decode cX9_image 343 = .ok (.goto (-33), 3) := by decide +kernel
theorem dX9_image_346 : decode cX9_image 346 = .ok (.aload_n 0, 1) := by decide +kernel
theorem dX9_image_347 : decode cX9_image 347 = .ok (.getfield 13, 3) := by decide +kernel
theorem dX9_image_350 : decode cX9_image 350 = .ok (.ireturn, 1) := by decide +kernel
theorem dX9_undo_0 : decode cX9_undo 0 = .ok (.aload_n 0, 1) := by decide +kernel
theorem dX9_undo_1 : decode cX9_undo 1 = .ok (.getfield 189, 3) := by decide +kernel
theorem dX9_undo_4 : decode cX9_undo 4 = .ok (.ifCond .ne 6, 3) := by decide +kernel
theorem dX9_undo_7 : decode cX9_undo 7 = .ok (.bipush (-3), 2) := by decide +kernel
theorem dX9_undo_9 : decode cX9_undo 9 = .ok (.ireturn, 1) := by decide +kernel
theorem dX9_undo_10 : decode cX9_undo 10 = .ok (.aload_n 0, 1) := by decide +kernel
theorem dX9_undo_11 : decode cX9_undo 11 = .ok (.aload_n 0, 1) := by decide +kernel
theorem dX9_undo_12 : decode cX9_undo 12 = .ok (.getfield 193, 3) := by decide +kernel
theorem dX9_undo_15 : decode cX9_undo 15 = .ok (.putfield 62, 3) := by decide +kernel
theorem dX9_undo_18 : decode cX9_undo 18 = .ok (.aload_n 0, 1) := by decide +kernel
theorem dX9_undo_19 : decode cX9_undo 19 = .ok (.aload_n 0, 1) := by decide +kernel
theorem dX9_undo_20 : decode cX9_undo 20 = .ok (.getfield 196, 3) := by decide +kernel
theorem dX9_undo_23 : decode cX9_undo 23 = .ok (.putfield 7, 3) := by decide +kernel
theorem dX9_undo_26 : decode cX9_undo 26 = .ok (.aload_n 0, 1) := by decide +kernel
theorem dX9_undo_27 : decode cX9_undo 27 = .ok (.aload_n 0, 1) := by decide +kernel
theorem dX9_undo_28 : decode cX9_undo 28 = .ok (.getfield 199, 3) := by decide +kernel
theorem dX9_undo_31 : decode cX9_undo 31 = .ok (.putfield 13, 3) := by decide +kernel
theorem dX9_undo_34 : decode cX9_undo 34 = .ok (.aload_n 0, 1) := by decide +kernel
theorem dX9_undo_35 : decode cX9_undo 35 = .ok (.aload_n 0, 1) := by decide +kernel
theorem dX9_undo_36 : decode cX9_undo 36 = .ok (.getfield 202, 3) := by decide +kernel
theorem dX9_undo_39 : decode cX9_undo 39 = .ok (.putfield 16, 3) := by decide +kernel
theorem dX9_undo_42 : decode cX9_undo 42 = .ok (.aload_n 0, 1) := by decide +kernel
theorem dX9_undo_43 : decode cX9_undo 43 = .ok (.aload_n 0, 1) := by decide +kernel
theorem dX9_undo_44 : decode cX9_undo 44 = .ok (.getfield 205, 3) := by decide +kernel
theorem dX9_undo_47 : decode cX9_undo 47 = .ok (.putfield 19, 3) := by decide +kernel
theorem dX9_undo_50 : decode cX9_undo 50 = .ok (.aload_n 0, 1) := by decide +kernel
theorem dX9_undo_51 : decode cX9_undo 51 = .ok (.aload_n 0, 1) := by decide +kernel
theorem dX9_undo_52 : decode cX9_undo 52 = .ok (.getfield 208, 3) := by decide +kernel
theorem dX9_undo_55 : decode cX9_undo 55 = .ok (.putfield 22, 3) := by decide +kernel
theorem dX9_undo_58 : decode cX9_undo 58 = .ok (.aload_n 0, 1) := by decide +kernel
theorem dX9_undo_59 : decode cX9_undo 59 = .ok (.aload_n 0, 1) := by decide +kernel
theorem dX9_undo_60 : decode cX9_undo 60 = .ok (.getfield 211, 3) := by decide +kernel
theorem dX9_undo_63 : decode cX9_undo 63 = .ok (.putfield 25, 3) := by decide +kernel
theorem dX9_undo_66 : decode cX9_undo 66 = .ok (.aload_n 0, 1) := by decide +kernel
theorem dX9_undo_67 : decode cX9_undo 67 = .ok (.aload_n 0, 1) := by decide +kernel
theorem dX9_undo_68 : decode cX9_undo 68 = .ok (.getfield 214, 3) := by decide +kernel
theorem dX9_undo_71 : decode cX9_undo 71 = .ok (.putfield 28, 3) := by decide +kernel
theorem dX9_undo_74 : decode cX9_undo 74 = .ok (.aload_n 0, 1) := by decide +kernel
theorem dX9_undo_75 : decode cX9_undo 75 = .ok (.aload_n 0, 1) := by decide +kernel
theorem dX9_undo_76 : decode cX9_undo 76 = .ok (.getfield 217, 3) := by decide +kernel
theorem dX9_undo_79 : decode cX9_undo 79 = .ok (.putfield 31, 3) := by decide +kernel
theorem dX9_undo_82 : decode cX9_undo 82 = .ok (.aload_n 0, 1) := by decide +kernel
theorem dX9_undo_83 : decode cX9_undo 83 = .ok (.aload_n 0, 1) := by decide +kernel
theorem dX9_undo_84 : decode cX9_undo 84 = .ok (.getfield 220, 3) := by decide +kernel
theorem dX9_undo_87 : decode cX9_undo 87 = .ok (.putfield 34, 3) := by decide +kernel
theorem dX9_undo_90 : decode cX9_undo 90 = .ok (.aload_n 0, 1) := by decide +kernel
theorem dX9_undo_91 : decode cX9_undo 91 = .ok (.aload_n 0, 1) := by decide +kernel
theorem dX9_undo_92 : decode cX9_undo 92 = .ok (.getfield 223, 3) := by decide +kernel
theorem dX9_undo_95 : decode cX9_undo 95 = .ok (.putfield 159, 3) := by decide +kernel
theorem dX9_undo_98 : decode cX9_undo 98 = .ok (.aload_n 0, 1) := by decide +kernel
theorem dX9_undo_99 : decode cX9_undo 99 = .ok (.aload_n 0, 1) := by decide +kernel
theorem dX9_undo_100 : decode cX9_undo 100 = .ok (.getfield 226, 3) := by decide +kernel
theorem dX9_undo_103 : decode cX9_undo 103 = .ok (.putfield 171, 3) := by decide +kernel
theorem dX9_undo_106 : decode cX9_undo 106 = .ok (.aload_n 0, 1) := by decide +kernel
theorem dX9_undo_107 : decode cX9_undo 107 = .ok (.aload_n 0, 1) := by decide +kernel
theorem dX9_undo_108 : decode cX9_undo 108 = .ok (.getfield 229, 3) := by decide +kernel
theorem dX9_undo_111 : decode cX9_undo 111 = .ok (.putfield 174, 3) := by decide +kernel
theorem dX9_undo_114 : decode cX9_undo 114 = .ok (.iconst 0, 1) := by decide +kernel
theorem dX9_undo_115 : decode cX9_undo 115 = .ok (.istore_n 1, 1) := by decide +kernel
theorem dX9_undo_116 : decode cX9_undo 116 = .ok (.iload_n 1, 1) := by decide +kernel
theorem dX9_undo_117 : decode cX9_undo 117 = .ok (.bipush 6, 2) := by decide +kernel
theorem dX9_undo_119 : decode cX9_undo 119 = .ok (.if_icmp .ge 81, 3) := by decide +kernel
theorem dX9_undo_122 : decode cX9_undo 122 = .ok (.aload_n 0, 1) := by decide +kernel
theorem dX9_undo_123 : decode cX9_undo 123 = .ok (.getfield 37, 3) := by decide +kernel
theorem dX9_undo_126 : decode cX9_undo 126 = .ok (.iload_n 1, 1) := by decide +kernel
theorem dX9_undo_127 : decode cX9_undo 127 = .ok (.aload_n 0, 1) := by decide +kernel
theorem dX9_undo_128 : decode cX9_undo 128 = .ok (.getfield 232, 3) := by decide +kernel
theorem dX9_undo_131 : decode cX9_undo 131 = .ok (.iload_n 1, 1) := by decide +kernel
theorem dX9_undo_132 : decode cX9_undo 132 = .ok (.iaload, 1) := by decide +kernel
theorem dX9_undo_133 : decode cX9_undo 133 = .ok (.iastore, 1) := by decide +kernel
theorem dX9_undo_134 : decode cX9_undo 134 = .ok (.aload_n 0, 1) := by decide +kernel
theorem dX9_undo_135 : decode cX9_undo 135 = .ok (.getfield 41, 3) := by decide +kernel
theorem dX9_undo_138 : decode cX9_undo 138 = .ok (.iload_n 1, 1) := by decide +kernel
theorem dX9_undo_139 : decode cX9_undo 139 = .ok (.aload_n 0, 1) := by decide +kernel
theorem dX9_undo_140 : decode cX9_undo 140 = .ok (.getfield 235, 3) := by decide +kernel
theorem dX9_undo_143 : decode cX9_undo 143 = .ok (.iload_n 1, 1) := by decide +kernel
theorem dX9_undo_144 : decode cX9_undo 144 = .ok (.iaload, 1) := by decide +kernel
theorem dX9_undo_145 : decode cX9_undo 145 = .ok (.iastore, 1) := by decide +kernel
theorem dX9_undo_146 : decode cX9_undo 146 = .ok (.aload_n 0, 1) := by decide +kernel
theorem dX9_undo_147 : decode cX9_undo 147 = .ok (.getfield 44, 3) := by decide +kernel
theorem dX9_undo_150 : decode cX9_undo 150 = .ok (.iload_n 1, 1) := by decide +kernel
theorem dX9_undo_151 : decode cX9_undo 151 = .ok (.aload_n 0, 1) := by decide +kernel
theorem dX9_undo_152 : decode cX9_undo 152 = .ok (.getfield 238, 3) := by decide +kernel
theorem dX9_undo_155 : decode cX9_undo 155 = .ok (.iload_n 1, 1) := by decide +kernel
theorem dX9_undo_156 : decode cX9_undo 156 = .ok (.iaload, 1) := by decide +kernel
theorem dX9_undo_157 : decode cX9_undo 157 = .ok (.iastore, 1) := by decide +kernel
theorem dX9_undo_158 : decode cX9_undo 158 = .ok (.aload_n 0, 1) := by decide +kernel
theorem dX9_undo_159 : decode cX9_undo 159 = .ok (.getfield 47, 3) := by decide +kernel
theorem dX9_undo_162 : decode cX9_undo 162 = .ok (.iload_n 1, 1) := by decide +kernel
theorem dX9_undo_163 : decode cX9_undo 163 = .ok (.aload_n 0, 1) := by decide +kernel
theorem dX9_undo_164 : decode cX9_undo 164 = .ok (.getfield 241, 3) := by decide +kernel
theorem dX9_undo_167 : decode cX9_undo 167 = .ok (.iload_n 1, 1) := by decide +kernel
theorem dX9_undo_168 : decode cX9_undo 168 = .ok (.iaload, 1) := by decide +kernel
theorem dX9_undo_169 : decode cX9_undo 169 = .ok (.iastore, 1) := by decide +kernel
theorem dX9_undo_170 : decode cX9_undo 170 = .ok (.aload_n 0, 1) := by decide +kernel
theorem dX9_undo_171 : decode cX9_undo 171 = .ok (.getfield 50, 3) := by decide +kernel
theorem dX9_undo_174 : decode cX9_undo 174 = .ok (.iload_n 1, 1) := by decide +kernel
theorem dX9_undo_175 : decode cX9_undo 175 = .ok (.aload_n 0, 1) := by decide +kernel
theorem dX9_undo_176 : decode cX9_undo 176 = .ok (.getfield 244, 3) := by decide +kernel
theorem dX9_undo_179 : decode cX9_undo 179 = .ok (.iload_n 1, 1) := by decide +kernel
theorem dX9_undo_180 : decode cX9_undo 180 = .ok (.iaload, 1) := by decide +kernel
theorem dX9_undo_181 : decode cX9_undo 181 = .ok (.iastore, 1) := by decide +kernel
theorem dX9_undo_182 : decode cX9_undo 182 = .ok (.aload_n 0, 1) := by decide +kernel
theorem dX9_undo_183 : decode cX9_undo 183 = .ok (.getfield 56, 3) := by decide +kernel
theorem dX9_undo_186 : decode cX9_undo 186 = .ok (.iload_n 1, 1) := by decide +kernel
theorem dX9_undo_187 : decode cX9_undo 187 = .ok (.aload_n 0, 1) := by decide +kernel
theorem dX9_undo_188 : decode cX9_undo 188 = .ok (.getfield 247, 3) := by decide +kernel
theorem dX9_undo_191 : decode cX9_undo 191 = .ok (.iload_n 1, 1) := by decide +kernel
theorem dX9_undo_192 : decode cX9_undo 192 = .ok (.iaload, 1) := by decide +kernel
theorem dX9_undo_193 : decode cX9_undo 193 = .ok (.iastore, 1) := by decide +kernel
theorem dX9_undo_194 : decode cX9_undo 194 = .ok (.iinc 1 1, 3) := by decide +kernel
theorem dX9_undo_197 : decode cX9_undo 197 = .ok (.goto (-81), 3) := by decide +kernel
theorem dX9_undo_200 : decode cX9_undo 200 = .ok (.iconst 0, 1) := by decide +kernel
theorem dX9_undo_201 : decode cX9_undo 201 = .ok (.istore_n 1, 1) := by decide +kernel
theorem dX9_undo_202 : decode cX9_undo 202 = .ok (.iload_n 1, 1) := by decide +kernel
theorem dX9_undo_203 : decode cX9_undo 203 = .ok (.bipush 24, 2) := by decide +kernel
theorem dX9_undo_205 : decode cX9_undo 205 = .ok (.if_icmp .ge 21, 3) := by decide +kernel
theorem dX9_undo_208 : decode cX9_undo 208 = .ok (.aload_n 0, 1) := by decide +kernel
theorem dX9_undo_209 : decode cX9_undo 209 = .ok (.getfield 53, 3) := by decide +kernel
theorem dX9_undo_212 : decode cX9_undo 212 = .ok (.iload_n 1, 1) := by decide +kernel
theorem dX9_undo_213 : decode cX9_undo 213 = .ok (.aload_n 0, 1) := by decide +kernel
theorem dX9_undo_214 : decode cX9_undo 214 = .ok (.getfield 250, 3) := by decide +kernel
theorem dX9_undo_217 : decode cX9_undo 217 = .ok (.iload_n 1, 1) := by decide +kernel
theorem dX9_undo_218 : decode cX9_undo 218 = .ok (.iaload, 1) := by decide +kernel
theorem dX9_undo_219 : decode cX9_undo 219 = .ok (.iastore, 1) := by decide +kernel
theorem dX9_undo_220 : decode cX9_undo 220 = .ok (.iinc 1 1, 3) := by decide +kernel
theorem dX9_undo_223 : decode cX9_undo 223 = .ok (.goto (-21), 3) := by decide +kernel
theorem dX9_undo_226 : decode cX9_undo 226 = .ok (.iconst 0, 1) := by decide +kernel
theorem dX9_undo_227 : decode cX9_undo 227 = .ok (.istore_n 1, 1) := by decide +kernel
theorem dX9_undo_228 : decode cX9_undo 228 = .ok (.iload_n 1, 1) := by decide +kernel
theorem dX9_undo_229 : decode cX9_undo 229 = .ok (.iconst 5, 1) := by decide +kernel
theorem dX9_undo_230 : decode cX9_undo 230 = .ok (.if_icmp .ge 45, 3) := by decide +kernel
theorem dX9_undo_233 : decode cX9_undo 233 = .ok (.aload_n 0, 1) := by decide +kernel
theorem dX9_undo_234 : decode cX9_undo 234 = .ok (.getfield 162, 3) := by decide +kernel
theorem dX9_undo_237 : decode cX9_undo 237 = .ok (.iload_n 1, 1) := by decide +kernel
theorem dX9_undo_238 : decode cX9_undo 238 = .ok (.aload_n 0, 1) := by decide +kernel
theorem dX9_undo_239 : decode cX9_undo 239 = .ok (.getfield 253, 3) := by decide +kernel
theorem dX9_undo_242 : decode cX9_undo 242 = .ok (.iload_n 1, 1) := by decide +kernel
theorem dX9_undo_243 : decode cX9_undo 243 = .ok (.iaload, 1) := by decide +kernel
theorem dX9_undo_244 : decode cX9_undo 244 = .ok (.iastore, 1) := by decide +kernel
theorem dX9_undo_245 : decode cX9_undo 245 = .ok (.aload_n 0, 1) := by decide +kernel
theorem dX9_undo_246 : decode cX9_undo 246 = .ok (.getfield 165, 3) := by decide +kernel
theorem dX9_undo_249 : decode cX9_undo 249 = .ok (.iload_n 1, 1) := by decide +kernel
theorem dX9_undo_250 : decode cX9_undo 250 = .ok (.aload_n 0, 1) := by decide +kernel
theorem dX9_undo_251 : decode cX9_undo 251 = .ok (.getfield 256, 3) := by decide +kernel
theorem dX9_undo_254 : decode cX9_undo 254 = .ok (.iload_n 1, 1) := by decide +kernel
theorem dX9_undo_255 : decode cX9_undo 255 = .ok (.iaload, 1) := by decide +kernel
theorem dX9_undo_256 : decode cX9_undo 256 = .ok (.iastore, 1) := by decide +kernel
theorem dX9_undo_257 : decode cX9_undo 257 = .ok (.aload_n 0, 1) := by decide +kernel
theorem dX9_undo_258 : decode cX9_undo 258 = .ok (.getfield 168, 3) := by decide +kernel
theorem dX9_undo_261 : decode cX9_undo 261 = .ok (.iload_n 1, 1) := by decide +kernel
theorem dX9_undo_262 : decode cX9_undo 262 = .ok (.aload_n 0, 1) := by decide +kernel
theorem dX9_undo_263 : decode cX9_undo 263 = .ok (.getfield 271, 3) := by decide +kernel
theorem dX9_undo_266 : decode cX9_undo 266 = .ok (.iload_n 1, 1) := by decide +kernel
theorem dX9_undo_267 : decode cX9_undo 267 = .ok (.baload, 1) := by decide +kernel
theorem dX9_undo_268 : decode cX9_undo 268 = .ok (.bastore, 1) := by decide +kernel
theorem dX9_undo_269 : decode cX9_undo 269 = .ok (.iinc 1 1, 3) := by decide +kernel
theorem dX9_undo_272 : decode cX9_undo 272 = .ok (.goto (-44), 3) := by decide +kernel
theorem dX9_undo_275 : decode cX9_undo 275 = .ok (.iconst 0, 1) := by decide +kernel
theorem dX9_undo_276 : decode cX9_undo 276 = .ok (.istore_n 1, 1) := by decide +kernel
theorem dX9_undo_277 : decode cX9_undo 277 = .ok (.iload_n 1, 1) := by decide +kernel
theorem dX9_undo_278 : decode cX9_undo 278 = .ok (.bipush 10, 2) := by decide +kernel
theorem dX9_undo_280 : decode cX9_undo 280 = .ok (.if_icmp .ge 33, 3) := by decide +kernel
theorem dX9_undo_283 : decode cX9_undo 283 = .ok (.aload_n 0, 1) := by decide +kernel
theorem dX9_undo_284 : decode cX9_undo 284 = .ok (.getfield 177, 3) := by decide +kernel
theorem dX9_undo_287 : decode cX9_undo 287 = .ok (.iload_n 1, 1) := by decide +kernel
theorem dX9_undo_288 : decode cX9_undo 288 = .ok (.aload_n 0, 1) := by decide +kernel
theorem dX9_undo_289 : decode cX9_undo 289 = .ok (.getfield 259, 3) := by decide +kernel
theorem dX9_undo_292 : decode cX9_undo 292 = .ok (.iload_n 1, 1) := by decide +kernel
theorem dX9_undo_293 : decode cX9_undo 293 = .ok (.iaload, 1) := by decide +kernel
theorem dX9_undo_294 : decode cX9_undo 294 = .ok (.iastore, 1) := by decide +kernel
theorem dX9_undo_295 : decode cX9_undo 295 = .ok (.aload_n 0, 1) := by decide +kernel
theorem dX9_undo_296 : decode cX9_undo 296 = .ok (.getfield 180, 3) := by decide +kernel
theorem dX9_undo_299 : decode cX9_undo 299 = .ok (.iload_n 1, 1) := by decide +kernel
theorem dX9_undo_300 : decode cX9_undo 300 = .ok (.aload_n 0, 1) := by decide +kernel
theorem dX9_undo_301 : decode cX9_undo 301 = .ok (.getfield 262, 3) := by decide +kernel
theorem dX9_undo_304 : decode cX9_undo 304 = .ok (.iload_n 1, 1) := by decide +kernel
theorem dX9_undo_305 : decode cX9_undo 305 = .ok (.iaload, 1) := by decide +kernel
theorem dX9_undo_306 : decode cX9_undo 306 = .ok (.iastore, 1) := by decide +kernel
theorem dX9_undo_307 : decode cX9_undo 307 = .ok (.iinc 1 1, 3) := by decide +kernel
theorem dX9_undo_310 : decode cX9_undo 310 = .ok (.goto (-33), 3) := by decide +kernel
theorem dX9_undo_313 : decode cX9_undo 313 = .ok (.iconst 0, 1) := by decide +kernel
theorem dX9_undo_314 : decode cX9_undo 314 = .ok (.istore_n 1, 1) := by decide +kernel
theorem dX9_undo_315 : decode cX9_undo 315 = .ok (.iload_n 1, 1) := by decide +kernel
theorem dX9_undo_316 : decode cX9_undo 316 = .ok (.bipush 8, 2) := by decide +kernel
theorem dX9_undo_318 : decode cX9_undo 318 = .ok (.if_icmp .ge 33, 3) := by decide +kernel
theorem dX9_undo_321 : decode cX9_undo 321 = .ok (.aload_n 0, 1) := by decide +kernel
theorem dX9_undo_322 : decode cX9_undo 322 = .ok (.getfield 183, 3) := by decide +kernel
theorem dX9_undo_325 : decode cX9_undo 325 = .ok (.iload_n 1, 1) := by decide +kernel
theorem dX9_undo_326 : decode cX9_undo 326 = .ok (.aload_n 0, 1) := by decide +kernel
theorem dX9_undo_327 : decode cX9_undo 327 = .ok (.getfield 265, 3) := by decide +kernel
theorem dX9_undo_330 : decode cX9_undo 330 = .ok (.iload_n 1, 1) := by decide +kernel
theorem dX9_undo_331 : decode cX9_undo 331 = .ok (.iaload, 1) := by decide +kernel
theorem dX9_undo_332 : decode cX9_undo 332 = .ok (.iastore, 1) := by decide +kernel
theorem dX9_undo_333 : decode cX9_undo 333 = .ok (.aload_n 0, 1) := by decide +kernel
theorem dX9_undo_334 : decode cX9_undo 334 = .ok (.getfield 186, 3) := by decide +kernel
theorem dX9_undo_337 : decode cX9_undo 337 = .ok (.iload_n 1, 1) := by decide +kernel
theorem dX9_undo_338 : decode cX9_undo 338 = .ok (.aload_n 0, 1) := by decide +kernel
theorem dX9_undo_339 : decode cX9_undo 339 = .ok (.getfield 268, 3) := by decide +kernel
theorem dX9_undo_342 : decode cX9_undo 342 = .ok (.iload_n 1, 1) := by decide +kernel
theorem dX9_undo_343 : decode cX9_undo 343 = .ok (.iaload, 1) := by decide +kernel
theorem dX9_undo_344 : decode cX9_undo 344 = .ok (.iastore, 1) := by decide +kernel
theorem dX9_undo_345 : decode cX9_undo 345 = .ok (.iinc 1 1, 3) := by decide +kernel
theorem dX9_undo_348 : decode cX9_undo 348 = .ok (.goto (-33), 3) := by decide +kernel
theorem dX9_undo_351 : decode cX9_undo 351 = .ok (.aload_n 0, 1) := by decide +kernel
theorem dX9_undo_352 : decode cX9_undo 352 = .ok (.getfield 13, 3) := by decide +kernel
theorem dX9_undo_355 : decode cX9_undo 355 = .ok (.ireturn, 1) := by decide +kernel
theorem dX9_body_0 : decode cX9_body 0 = .ok (.aload_n 0, 1) := by decide +kernel
theorem dX9_body_1 : decode cX9_body 1 = .ok (.getfield 274, 3) := by decide +kernel
theorem dX9_body_4 : decode cX9_body 4 = .ok (.bipush 20, 2) := by decide +kernel
theorem dX9_body_6 : decode cX9_body 6 = .ok (.if_icmp .ge 13, 3) := by decide +kernel
theorem dX9_body_9 : decode cX9_body 9 = .ok (.aload_n 0, 1) := by decide +kernel
theorem dX9_body_10 : decode cX9_body 10 = .ok (.getfield 277, 3) := by decide +kernel
theorem dX9_body_13 : decode cX9_body 13 = .ok (.aload_n 0, 1) := by decide +kernel
theorem dX9_body_14 : decode cX9_body 14 = .ok (.getfield 274, 3) := by decide +kernel
theorem dX9_body_17 : decode cX9_body 17 = .ok (.iload_n 1, 1) := by decide +kernel
theorem dX9_body_18 : decode cX9_body 18 = .ok (.iastore, 1) := by decide +kernel
theorem dX9_body_19 : decode cX9_body 19 = .ok (.aload_n 0, 1) := by decide +kernel
theorem dX9_body_20 : decode cX9_body 20 = .ok (.dup, 1) := by decide +kernel
theorem dX9_body_21 : decode cX9_body 21 = .ok (.getfield 274, 3) := by decide +kernel
theorem dX9_body_24 : decode cX9_body 24 = .ok (.iconst 1, 1) := by decide +kernel
theorem dX9_body_25 : decode cX9_body 25 = .ok (.iadd, 1) := by decide +kernel
theorem dX9_body_26 : decode cX9_body 26 = .ok (.putfield 274, 3) := by decide +kernel
theorem dX9_body_29 : decode cX9_body 29 = .ok (.return_, 1) := by decide +kernel
theorem dX9_personWaits_0 : decode cX9_personWaits 0 = .ok (.aload_n 0, 1) := by decide +kernel
theorem dX9_personWaits_1 : decode cX9_personWaits 1 = .ok (.bipush 10, 2) := by decide +kernel
theorem dX9_personWaits_3 : decode cX9_personWaits 3 = .ok (.invokevirtual 472, 3) := by decide +kernel
theorem dX9_personWaits_6 : decode cX9_personWaits 6 = .ok (.iload_n 2, 1) := by decide +kernel
theorem dX9_personWaits_7 : decode cX9_personWaits 7 = .ok (.iload_n 1, 1) := by decide +kernel
theorem dX9_personWaits_8 : decode cX9_personWaits 8 = .ok (.iadd, 1) := by decide +kernel
theorem dX9_personWaits_9 : decode cX9_personWaits 9 = .ok (.ireturn, 1) := by decide +kernel
theorem dX9_waitsAct_0 : decode cX9_waitsAct 0 = .ok (.aload_n 0, 1) := by decide +kernel
theorem dX9_waitsAct_1 : decode cX9_waitsAct 1 = .ok (.getfield 41, 3) := by decide +kernel
theorem dX9_waitsAct_4 : decode cX9_waitsAct 4 = .ok (.iload_n 1, 1) := by decide +kernel
theorem dX9_waitsAct_5 : decode cX9_waitsAct 5 = .ok (.iaload, 1) := by decide +kernel
theorem dX9_waitsAct_6 : decode cX9_waitsAct 6 = .ok (.tableswitch 83 2 6 #[34, 83, 49, 34, 63], 34) := by decide +kernel
theorem dX9_waitsAct_40 : decode cX9_waitsAct 40 = .ok (.aload_n 0, 1) := by decide +kernel
theorem dX9_waitsAct_41 : decode cX9_waitsAct 41 = .ok (.bipush 30, 2) := by decide +kernel
theorem dX9_waitsAct_43 : decode cX9_waitsAct 43 = .ok (.invokevirtual 472, 3) := by decide +kernel
theorem dX9_waitsAct_46 : decode cX9_waitsAct 46 = .ok (.aload_n 0, 1) := by decide +kernel
theorem dX9_waitsAct_47 : decode cX9_waitsAct 47 = .ok (.iload_n 1, 1) := by decide +kernel
theorem dX9_waitsAct_48 : decode cX9_waitsAct 48 = .ok (.iload_n 2, 1) := by decide +kernel
theorem dX9_waitsAct_49 : decode cX9_waitsAct 49 = .ok (.iconst 3, 1) := by decide +kernel
theorem dX9_waitsAct_50 : decode cX9_waitsAct 50 = .ok (.imul, 1) := by decide +kernel
theorem dX9_waitsAct_51 : decode cX9_waitsAct 51 = .ok (.invokevirtual 475, 3) := by decide +kernel
theorem dX9_waitsAct_54 : decode cX9_waitsAct 54 = .ok (.ireturn, 1) := by decide +kernel
theorem dX9_waitsAct_55 : decode cX9_waitsAct 55 = .ok (.aload_n 0, 1) := by decide +kernel
theorem dX9_waitsAct_56 : decode cX9_waitsAct 56 = .ok (.bipush 50, 2) := by decide +kernel
theorem dX9_waitsAct_58 : decode cX9_waitsAct 58 = .ok (.invokevirtual 472, 3) := by decide +kernel
theorem dX9_waitsAct_61 : decode cX9_waitsAct 61 = .ok (.aload_n 0, 1) := by decide +kernel
theorem dX9_waitsAct_62 : decode cX9_waitsAct 62 = .ok (.iload_n 1, 1) := by decide +kernel
theorem dX9_waitsAct_63 : decode cX9_waitsAct 63 = .ok (.iload_n 2, 1) := by decide +kernel
theorem dX9_waitsAct_64 : decode cX9_waitsAct 64 = .ok (.invokevirtual 475, 3) := by decide +kernel
theorem dX9_waitsAct_67 : decode cX9_waitsAct 67 = .ok (.ineg, 1) := by decide +kernel
theorem dX9_waitsAct_68 : decode cX9_waitsAct 68 = .ok (.ireturn, 1) := by decide +kernel
theorem dX9_waitsAct_69 : decode cX9_waitsAct 69 = .ok (.aload_n 0, 1) := by decide +kernel
theorem dX9_waitsAct_70 : decode cX9_waitsAct 70 = .ok (.bipush 71, 2) := by decide +kernel
theorem dX9_waitsAct_72 : decode cX9_waitsAct 72 = .ok (.invokevirtual 472, 3) := by decide +kernel
theorem dX9_waitsAct_75 : decode cX9_waitsAct 75 = .ok (.aload_n 0, 1) := by decide +kernel
theorem dX9_waitsAct_76 : decode cX9_waitsAct 76 = .ok (.iload_n 1, 1) := by decide +kernel
theorem dX9_waitsAct_77 : decode cX9_waitsAct 77 = .ok (.iload_n 2, 1) := by decide +kernel
theorem dX9_waitsAct_78 : decode cX9_waitsAct 78 = .ok (.invokevirtual 475, 3) := by decide +kernel
theorem dX9_waitsAct_81 : decode cX9_waitsAct 81 = .ok (.aload_n 0, 1) := by decide +kernel
theorem dX9_waitsAct_82 : decode cX9_waitsAct 82 = .ok (.getfield 44, 3) := by decide +kernel
theorem dX9_waitsAct_85 : decode cX9_waitsAct 85 = .ok (.iload_n 1, 1) := by decide +kernel
theorem dX9_waitsAct_86 : decode cX9_waitsAct 86 = .ok (.iaload, 1) := by decide +kernel
theorem dX9_waitsAct_87 : decode cX9_waitsAct 87 = .ok (.ixor, 1) := by decide +kernel
theorem dX9_waitsAct_88 : decode cX9_waitsAct 88 = .ok (.ireturn, 1) := by decide +kernel
theorem dX9_waitsAct_89 : decode cX9_waitsAct 89 = .ok (.aload_n 0, 1) := by decide +kernel
theorem dX9_waitsAct_90 : decode cX9_waitsAct 90 = .ok (.iload_n 1, 1) := by decide +kernel
theorem dX9_waitsAct_91 : decode cX9_waitsAct 91 = .ok (.iload_n 2, 1) := by decide +kernel
theorem dX9_waitsAct_92 : decode cX9_waitsAct 92 = .ok (.invokevirtual 475, 3) := by decide +kernel
theorem dX9_waitsAct_95 : decode cX9_waitsAct 95 = .ok (.ireturn, 1) := by decide +kernel
theorem dX9_personWalks_0 : decode cX9_personWalks 0 = .ok (.aload_n 0, 1) := by decide +kernel
theorem dX9_personWalks_1 : decode cX9_personWalks 1 = .ok (.bipush 11, 2) := by decide +kernel
theorem dX9_personWalks_3 : decode cX9_personWalks 3 = .ok (.invokevirtual 472, 3) := by decide +kernel
theorem dX9_personWalks_6 : decode cX9_personWalks 6 = .ok (.aload_n 0, 1) := by decide +kernel
theorem dX9_personWalks_7 : decode cX9_personWalks 7 = .ok (.iload_n 1, 1) := by decide +kernel
theorem dX9_personWalks_8 : decode cX9_personWalks 8 = .ok (.iload_n 2, 1) := by decide +kernel
theorem dX9_personWalks_9 : decode cX9_personWalks 9 = .ok (.invokevirtual 478, 3) := by decide +kernel
theorem dX9_personWalks_12 : decode cX9_personWalks 12 = .ok (.aload_n 0, 1) := by decide +kernel
theorem dX9_personWalks_13 : decode cX9_personWalks 13 = .ok (.getfield 44, 3) := by decide +kernel
theorem dX9_personWalks_16 : decode cX9_personWalks 16 = .ok (.iload_n 1, 1) := by decide +kernel
theorem dX9_personWalks_17 : decode cX9_personWalks 17 = .ok (.iaload, 1) := by decide +kernel
theorem dX9_personWalks_18 : decode cX9_personWalks 18 = .ok (.isub, 1) := by decide +kernel
theorem dX9_personWalks_19 : decode cX9_personWalks 19 = .ok (.ireturn, 1) := by decide +kernel
theorem dX9_oldWalks_0 : decode cX9_oldWalks 0 = .ok (.aload_n 0, 1) := by decide +kernel
theorem dX9_oldWalks_1 : decode cX9_oldWalks 1 = .ok (.bipush 20, 2) := by decide +kernel
theorem dX9_oldWalks_3 : decode cX9_oldWalks 3 = .ok (.invokevirtual 472, 3) := by decide +kernel
theorem dX9_oldWalks_6 : decode cX9_oldWalks 6 = .ok (.aload_n 0, 1) := by decide +kernel
theorem dX9_oldWalks_7 : decode cX9_oldWalks 7 = .ok (.iload_n 1, 1) := by decide +kernel
theorem dX9_oldWalks_8 : decode cX9_oldWalks 8 = .ok (.iload_n 2, 1) := by decide +kernel
theorem dX9_oldWalks_9 : decode cX9_oldWalks 9 = .ok (.invokevirtual 481, 3) := by decide +kernel
theorem dX9_oldWalks_12 : decode cX9_oldWalks 12 = .ok (.bipush 6, 2) := by decide +kernel
theorem dX9_oldWalks_14 : decode cX9_oldWalks 14 = .ok (.ixor, 1) := by decide +kernel
theorem dX9_oldWalks_15 : decode cX9_oldWalks 15 = .ok (.ireturn, 1) := by decide +kernel
theorem dX9_walksAct_0 : decode cX9_walksAct 0 = .ok (.aload_n 0, 1) := by decide +kernel
theorem dX9_walksAct_1 : decode cX9_walksAct 1 = .ok (.getfield 41, 3) := by decide +kernel
theorem dX9_walksAct_4 : decode cX9_walksAct 4 = .ok (.iload_n 1, 1) := by decide +kernel
theorem dX9_walksAct_5 : decode cX9_walksAct 5 = .ok (.iaload, 1) := by decide +kernel
theorem dX9_walksAct_6 : decode cX9_walksAct 6 = .ok (.lookupswitch 78 #[(1, 34), (4, 41), (6, 56)], 34) := by decide +kernel
theorem dX9_walksAct_40 : decode cX9_walksAct 40 = .ok (.aload_n 0, 1) := by decide +kernel
theorem dX9_walksAct_41 : decode cX9_walksAct 41 = .ok (.iload_n 1, 1) := by decide +kernel
theorem dX9_walksAct_42 : decode cX9_walksAct 42 = .ok (.iload_n 2, 1) := by decide +kernel
theorem dX9_walksAct_43 : decode cX9_walksAct 43 = .ok (.invokevirtual 484, 3) := by decide +kernel
theorem dX9_walksAct_46 : decode cX9_walksAct 46 = .ok (.ireturn, 1) := by decide +kernel
theorem dX9_walksAct_47 : decode cX9_walksAct 47 = .ok (.aload_n 0, 1) := by decide +kernel
theorem dX9_walksAct_48 : decode cX9_walksAct 48 = .ok (.bipush 51, 2) := by decide +kernel
theorem dX9_walksAct_50 : decode cX9_walksAct 50 = .ok (.invokevirtual 472, 3) := by decide +kernel
theorem dX9_walksAct_53 : decode cX9_walksAct 53 = .ok (.aload_n 0, 1) := by decide +kernel
theorem dX9_walksAct_54 : decode cX9_walksAct 54 = .ok (.iload_n 1, 1) := by decide +kernel
theorem dX9_walksAct_55 : decode cX9_walksAct 55 = .ok (.iload_n 2, 1) := by decide +kernel
theorem dX9_walksAct_56 : decode cX9_walksAct 56 = .ok (.iconst 1, 1) := by decide +kernel
theorem dX9_walksAct_57 : decode cX9_walksAct 57 = .ok (.iadd, 1) := by decide +kernel
theorem dX9_walksAct_58 : decode cX9_walksAct 58 = .ok (.invokevirtual 484, 3) := by decide +kernel
theorem dX9_walksAct_61 : decode cX9_walksAct 61 = .ok (.ireturn, 1) := by decide +kernel
theorem dX9_walksAct_62 : decode cX9_walksAct 62 = .ok (.aload_n 0, 1) := by decide +kernel
theorem dX9_walksAct_63 : decode cX9_walksAct 63 = .ok (.bipush 70, 2) := by decide +kernel
theorem dX9_walksAct_65 : decode cX9_walksAct 65 = .ok (.invokevirtual 472, 3) := by decide +kernel
theorem dX9_walksAct_68 : decode cX9_walksAct 68 = .ok (.aload_n 0, 1) := by decide +kernel
theorem dX9_walksAct_69 : decode cX9_walksAct 69 = .ok (.iload_n 1, 1) := by decide +kernel
theorem dX9_walksAct_70 : decode cX9_walksAct 70 = .ok (.iload_n 2, 1) := by decide +kernel
theorem dX9_walksAct_71 : decode cX9_walksAct 71 = .ok (.invokevirtual 481, 3) := by decide +kernel
theorem dX9_walksAct_74 : decode cX9_walksAct 74 = .ok (.istore_n 3, 1) := by decide +kernel
theorem dX9_walksAct_75 : decode cX9_walksAct 75 = .ok (.iload_n 3, 1) := by decide +kernel
theorem dX9_walksAct_76 : decode cX9_walksAct 76 = .ok (.aload_n 0, 1) := by decide +kernel
theorem dX9_walksAct_77 : decode cX9_walksAct 77 = .ok (.iload_n 1, 1) := by decide +kernel
theorem dX9_walksAct_78 : decode cX9_walksAct 78 = .ok (.iconst 2, 1) := by decide +kernel
theorem dX9_walksAct_79 : decode cX9_walksAct 79 = .ok (.invokevirtual 475, 3) := by decide +kernel
theorem dX9_walksAct_82 : decode cX9_walksAct 82 = .ok (.iadd, 1) := by decide +kernel
theorem dX9_walksAct_83 : decode cX9_walksAct 83 = .ok (.ireturn, 1) := by decide +kernel
theorem dX9_walksAct_84 : decode cX9_walksAct 84 = .ok (.aload_n 0, 1) := by decide +kernel
theorem dX9_walksAct_85 : decode cX9_walksAct 85 = .ok (.iload_n 1, 1) := by decide +kernel
theorem dX9_walksAct_86 : decode cX9_walksAct 86 = .ok (.iload_n 2, 1) := by decide +kernel
theorem dX9_walksAct_87 : decode cX9_walksAct 87 = .ok (.invokevirtual 481, 3) := by decide +kernel
theorem dX9_walksAct_90 : decode cX9_walksAct 90 = .ok (.ireturn, 1) := by decide +kernel
theorem dX9_personTells_0 : decode cX9_personTells 0 = .ok (.aload_n 0, 1) := by decide +kernel
theorem dX9_personTells_1 : decode cX9_personTells 1 = .ok (.bipush 12, 2) := by decide +kernel
theorem dX9_personTells_3 : decode cX9_personTells 3 = .ok (.invokevirtual 472, 3) := by decide +kernel
theorem dX9_personTells_6 : decode cX9_personTells 6 = .ok (.aload_n 0, 1) := by decide +kernel
theorem dX9_personTells_7 : decode cX9_personTells 7 = .ok (.iload_n 1, 1) := by decide +kernel
theorem dX9_personTells_8 : decode cX9_personTells 8 = .ok (.iload_n 2, 1) := by decide +kernel
theorem dX9_personTells_9 : decode cX9_personTells 9 = .ok (.invokevirtual 487, 3) := by decide +kernel
theorem dX9_personTells_12 : decode cX9_personTells 12 = .ok (.iconst 2, 1) := by decide +kernel
theorem dX9_personTells_13 : decode cX9_personTells 13 = .ok (.imul, 1) := by decide +kernel
theorem dX9_personTells_14 : decode cX9_personTells 14 = .ok (.ireturn, 1) := by decide +kernel
theorem dX9_tellsAct_0 : decode cX9_tellsAct 0 = .ok (.aload_n 0, 1) := by decide +kernel
theorem dX9_tellsAct_1 : decode cX9_tellsAct 1 = .ok (.getfield 41, 3) := by decide +kernel
theorem dX9_tellsAct_4 : decode cX9_tellsAct 4 = .ok (.iload_n 1, 1) := by decide +kernel
theorem dX9_tellsAct_5 : decode cX9_tellsAct 5 = .ok (.iaload, 1) := by decide +kernel
theorem dX9_tellsAct_6 : decode cX9_tellsAct 6 = .ok (.tableswitch 67 3 6 #[30, 67, 52, 30], 30) := by decide +kernel
theorem dX9_tellsAct_36 : decode cX9_tellsAct 36 = .ok (.aload_n 0, 1) := by decide +kernel
theorem dX9_tellsAct_37 : decode cX9_tellsAct 37 = .ok (.bipush 40, 2) := by decide +kernel
theorem dX9_tellsAct_39 : decode cX9_tellsAct 39 = .ok (.invokevirtual 472, 3) := by decide +kernel
theorem dX9_tellsAct_42 : decode cX9_tellsAct 42 = .ok (.aload_n 0, 1) := by decide +kernel
theorem dX9_tellsAct_43 : decode cX9_tellsAct 43 = .ok (.iload_n 1, 1) := by decide +kernel
theorem dX9_tellsAct_44 : decode cX9_tellsAct 44 = .ok (.iload_n 2, 1) := by decide +kernel
theorem dX9_tellsAct_45 : decode cX9_tellsAct 45 = .ok (.invokevirtual 490, 3) := by decide +kernel
theorem dX9_tellsAct_48 : decode cX9_tellsAct 48 = .ok (.istore_n 3, 1) := by decide +kernel
theorem dX9_tellsAct_49 : decode cX9_tellsAct 49 = .ok (.iload_n 3, 1) := by decide +kernel
theorem dX9_tellsAct_50 : decode cX9_tellsAct 50 = .ok (.aload_n 0, 1) := by decide +kernel
theorem dX9_tellsAct_51 : decode cX9_tellsAct 51 = .ok (.iload_n 1, 1) := by decide +kernel
theorem dX9_tellsAct_52 : decode cX9_tellsAct 52 = .ok (.iconst 1, 1) := by decide +kernel
theorem dX9_tellsAct_53 : decode cX9_tellsAct 53 = .ok (.invokevirtual 487, 3) := by decide +kernel
theorem dX9_tellsAct_56 : decode cX9_tellsAct 56 = .ok (.iadd, 1) := by decide +kernel
theorem dX9_tellsAct_57 : decode cX9_tellsAct 57 = .ok (.ireturn, 1) := by decide +kernel
theorem dX9_tellsAct_58 : decode cX9_tellsAct 58 = .ok (.aload_n 0, 1) := by decide +kernel
theorem dX9_tellsAct_59 : decode cX9_tellsAct 59 = .ok (.bipush 60, 2) := by decide +kernel
theorem dX9_tellsAct_61 : decode cX9_tellsAct 61 = .ok (.invokevirtual 472, 3) := by decide +kernel
theorem dX9_tellsAct_64 : decode cX9_tellsAct 64 = .ok (.aload_n 0, 1) := by decide +kernel
theorem dX9_tellsAct_65 : decode cX9_tellsAct 65 = .ok (.iload_n 1, 1) := by decide +kernel
theorem dX9_tellsAct_66 : decode cX9_tellsAct 66 = .ok (.iload_n 2, 1) := by decide +kernel
theorem dX9_tellsAct_67 : decode cX9_tellsAct 67 = .ok (.iload_n 1, 1) := by decide +kernel
theorem dX9_tellsAct_68 : decode cX9_tellsAct 68 = .ok (.isub, 1) := by decide +kernel
theorem dX9_tellsAct_69 : decode cX9_tellsAct 69 = .ok (.invokevirtual 490, 3) := by decide +kernel
theorem dX9_tellsAct_72 : decode cX9_tellsAct 72 = .ok (.ireturn, 1) := by decide +kernel
theorem dX9_tellsAct_73 : decode cX9_tellsAct 73 = .ok (.aload_n 0, 1) := by decide +kernel
theorem dX9_tellsAct_74 : decode cX9_tellsAct 74 = .ok (.iload_n 1, 1) := by decide +kernel
theorem dX9_tellsAct_75 : decode cX9_tellsAct 75 = .ok (.iload_n 2, 1) := by decide +kernel
theorem dX9_tellsAct_76 : decode cX9_tellsAct 76 = .ok (.invokevirtual 490, 3) := by decide +kernel
theorem dX9_tellsAct_79 : decode cX9_tellsAct 79 = .ok (.ireturn, 1) := by decide +kernel
theorem dX9_act_0 : decode cX9_act 0 = .ok (.aload_n 0, 1) := by decide +kernel
theorem dX9_act_1 : decode cX9_act 1 = .ok (.iconst 0, 1) := by decide +kernel
theorem dX9_act_2 : decode cX9_act 2 = .ok (.putfield 274, 3) := by decide +kernel
theorem dX9_act_5 : decode cX9_act 5 = .ok (.aload_n 0, 1) := by decide +kernel
theorem dX9_act_6 : decode cX9_act 6 = .ok (.iload_n 1, 1) := by decide +kernel
theorem dX9_act_7 : decode cX9_act 7 = .ok (.invokevirtual 305, 3) := by decide +kernel
theorem dX9_act_10 : decode cX9_act 10 = .ok (.ifCond .eq 13, 3) := by decide +kernel
theorem dX9_act_13 : decode cX9_act 13 = .ok (.aload_n 0, 1) := by decide +kernel
theorem dX9_act_14 : decode cX9_act 14 = .ok (.iload_n 2, 1) := by decide +kernel
theorem dX9_act_15 : decode cX9_act 15 = .ok (.iconst 0, 1) := by decide +kernel
theorem dX9_act_16 : decode cX9_act 16 = .ok (.iconst 2, 1) := by decide +kernel
theorem dX9_act_17 : decode cX9_act 17 = .ok (.invokevirtual 293, 3) := by decide +kernel
theorem dX9_act_20 : decode cX9_act 20 = .ok (.ifCond .ne 5, 3) := by decide +kernel
theorem dX9_act_23 : decode cX9_act 23 = .ok (.iconst 0, 1) := by decide +kernel
theorem dX9_act_24 : decode cX9_act 24 = .ok (.ireturn, 1) := by decide +kernel
theorem dX9_act_25 : decode cX9_act 25 = .ok (.iload_n 2, 1) := by decide +kernel
theorem dX9_act_26 : decode cX9_act 26 = .ok (.ifCond .ne 12, 3) := by decide +kernel
theorem dX9_act_29 : decode cX9_act 29 = .ok (.aload_n 0, 1) := by decide +kernel
theorem dX9_act_30 : decode cX9_act 30 = .ok (.iload_n 1, 1) := by decide +kernel
theorem dX9_act_31 : decode cX9_act 31 = .ok (.iload_n 3, 1) := by decide +kernel
theorem dX9_act_32 : decode cX9_act 32 = .ok (.invokevirtual 478, 3) := by decide +kernel
theorem dX9_act_35 : decode cX9_act 35 = .ok (.goto 23, 3) := by decide +kernel
theorem dX9_act_38 : decode cX9_act 38 = .ok (.iload_n 2, 1) := by decide +kernel
theorem dX9_act_39 : decode cX9_act 39 = .ok (.iconst 1, 1) := by decide +kernel
theorem dX9_act_40 : decode cX9_act 40 = .ok (.if_icmp .ne 12, 3) := by decide +kernel
theorem dX9_act_43 : decode cX9_act 43 = .ok (.aload_n 0, 1) := by decide +kernel
theorem dX9_act_44 : decode cX9_act 44 = .ok (.iload_n 1, 1) := by decide +kernel
theorem dX9_act_45 : decode cX9_act 45 = .ok (.iload_n 3, 1) := by decide +kernel
theorem dX9_act_46 : decode cX9_act 46 = .ok (.invokevirtual 487, 3) := by decide +kernel
theorem dX9_act_49 : decode cX9_act 49 = .ok (.goto 9, 3) := by decide +kernel
theorem dX9_act_52 : decode cX9_act 52 = .ok (.aload_n 0, 1) := by decide +kernel
theorem dX9_act_53 : decode cX9_act 53 = .ok (.iload_n 1, 1) := by decide +kernel
theorem dX9_act_54 : decode cX9_act 54 = .ok (.iload_n 3, 1) := by decide +kernel
theorem dX9_act_55 : decode cX9_act 55 = .ok (.invokevirtual 493, 3) := by decide +kernel
theorem dX9_act_58 : decode cX9_act 58 = .ok (.ireturn, 1) := by decide +kernel
theorem dX9_trace_0 : decode cX9_trace 0 = .ok (.aload_n 0, 1) := by decide +kernel
theorem dX9_trace_1 : decode cX9_trace 1 = .ok (.iload_n 1, 1) := by decide +kernel
theorem dX9_trace_2 : decode cX9_trace 2 = .ok (.iconst 0, 1) := by decide +kernel
theorem dX9_trace_3 : decode cX9_trace 3 = .ok (.bipush 19, 2) := by decide +kernel
theorem dX9_trace_5 : decode cX9_trace 5 = .ok (.invokevirtual 293, 3) := by decide +kernel
theorem dX9_trace_8 : decode cX9_trace 8 = .ok (.ifCond .eq 20, 3) := by decide +kernel
theorem dX9_trace_11 : decode cX9_trace 11 = .ok (.iload_n 1, 1) := by decide +kernel
theorem dX9_trace_12 : decode cX9_trace 12 = .ok (.aload_n 0, 1) := by decide +kernel
theorem dX9_trace_13 : decode cX9_trace 13 = .ok (.getfield 274, 3) := by decide +kernel
theorem dX9_trace_16 : decode cX9_trace 16 = .ok (.if_icmp .ge 12, 3) := by decide +kernel
theorem dX9_trace_19 : decode cX9_trace 19 = .ok (.aload_n 0, 1) := by decide +kernel
theorem dX9_trace_20 : decode cX9_trace 20 = .ok (.getfield 277, 3) := by decide +kernel
theorem dX9_trace_23 : decode cX9_trace 23 = .ok (.iload_n 1, 1) := by decide +kernel
theorem dX9_trace_24 : decode cX9_trace 24 = .ok (.iaload, 1) := by decide +kernel
theorem dX9_trace_25 : decode cX9_trace 25 = .ok (.goto 4, 3) := by decide +kernel
theorem dX9_trace_28 : decode cX9_trace 28 = .ok (.iconst (-1), 1) := by decide +kernel
theorem dX9_trace_29 : decode cX9_trace 29 = .ok (.ireturn, 1) := by decide +kernel
theorem dX9_taken_0 : decode cX9_taken 0 = .ok (.aload_n 0, 1) := by decide +kernel
theorem dX9_taken_1 : decode cX9_taken 1 = .ok (.iload_n 2, 1) := by decide +kernel
theorem dX9_taken_2 : decode cX9_taken 2 = .ok (.iconst 0, 1) := by decide +kernel
theorem dX9_taken_3 : decode cX9_taken 3 = .ok (.bipush 6, 2) := by decide +kernel
theorem dX9_taken_5 : decode cX9_taken 5 = .ok (.invokevirtual 293, 3) := by decide +kernel
theorem dX9_taken_8 : decode cX9_taken 8 = .ok (.ifCond .ne 6, 3) := by decide +kernel
theorem dX9_taken_11 : decode cX9_taken 11 = .ok (.bipush (-2), 2) := by decide +kernel
theorem dX9_taken_13 : decode cX9_taken 13 = .ok (.ireturn, 1) := by decide +kernel
theorem dX9_taken_14 : decode cX9_taken 14 = .ok (.aload_n 0, 1) := by decide +kernel
theorem dX9_taken_15 : decode cX9_taken 15 = .ok (.iload_n 1, 1) := by decide +kernel
theorem dX9_taken_16 : decode cX9_taken 16 = .ok (.invokevirtual 305, 3) := by decide +kernel
theorem dX9_taken_19 : decode cX9_taken 19 = .ok (.ifCond .ne 6, 3) := by decide +kernel
theorem dX9_taken_22 : decode cX9_taken 22 = .ok (.bipush (-11), 2) := by decide +kernel
theorem dX9_taken_24 : decode cX9_taken 24 = .ok (.ireturn, 1) := by decide +kernel
theorem dX9_taken_25 : decode cX9_taken 25 = .ok (.aload_n 0, 1) := by decide +kernel
theorem dX9_taken_26 : decode cX9_taken 26 = .ok (.getfield 41, 3) := by decide +kernel
theorem dX9_taken_29 : decode cX9_taken 29 = .ok (.iload_n 1, 1) := by decide +kernel
theorem dX9_taken_30 : decode cX9_taken 30 = .ok (.iaload, 1) := by decide +kernel
theorem dX9_taken_31 : decode cX9_taken 31 = .ok (.istore_n 3, 1) := by decide +kernel
theorem dX9_taken_32 : decode cX9_taken 32 = .ok (.iload_n 2, 1) := by decide +kernel
theorem dX9_taken_33 : decode cX9_taken 33 = .ok (.ifCond .eq 39, 3) := by decide +kernel
theorem dX9_taken_36 : decode cX9_taken 36 = .ok (.iload_n 3, 1) := by decide +kernel
theorem dX9_taken_37 : decode cX9_taken 37 = .ok (.iload_n 2, 1) := by decide +kernel
theorem dX9_taken_38 : decode cX9_taken 38 = .ok (.if_icmp .eq 34, 3) := by decide +kernel
theorem dX9_taken_41 : decode cX9_taken 41 = .ok (.iload_n 2, 1) := by decide +kernel
theorem dX9_taken_42 : decode cX9_taken 42 = .ok (.iconst 1, 1) := by decide +kernel
theorem dX9_taken_43 : decode cX9_taken 43 = .ok (.if_icmp .ne 8, 3) := by decide +kernel
theorem dX9_taken_46 : decode cX9_taken 46 = .ok (.iload_n 3, 1) := by decide +kernel
theorem dX9_taken_47 : decode cX9_taken 47 = .ok (.iconst 4, 1) := by decide +kernel
theorem dX9_taken_48 : decode cX9_taken 48 = .ok (.if_icmp .eq 24, 3) := by decide +kernel
theorem dX9_taken_51 : decode cX9_taken 51 = .ok (.iload_n 2, 1) := by decide +kernel
theorem dX9_taken_52 : decode cX9_taken 52 = .ok (.iconst 2, 1) := by decide +kernel
theorem dX9_taken_53 : decode cX9_taken 53 = .ok (.if_icmp .ne 8, 3) := by decide +kernel
theorem dX9_taken_56 : decode cX9_taken 56 = .ok (.iload_n 3, 1) := by decide +kernel
theorem dX9_taken_57 : decode cX9_taken 57 = .ok (.iconst 5, 1) := by decide +kernel
theorem dX9_taken_58 : decode cX9_taken 58 = .ok (.if_icmp .eq 14, 3) := by decide +kernel
theorem dX9_taken_61 : decode cX9_taken 61 = .ok (.iload_n 2, 1) := by decide +kernel
theorem dX9_taken_62 : decode cX9_taken 62 = .ok (.iconst 3, 1) := by decide +kernel
theorem dX9_taken_63 : decode cX9_taken 63 = .ok (.if_icmp .ne 13, 3) := by decide +kernel
theorem dX9_taken_66 : decode cX9_taken 66 = .ok (.iload_n 3, 1) := by decide +kernel
theorem dX9_taken_67 : decode cX9_taken 67 = .ok (.bipush 6, 2) := by decide +kernel
theorem dX9_taken_69 : decode cX9_taken 69 = .ok (.if_icmp .ne 7, 3) := by decide +kernel
theorem dX9_taken_72 : decode cX9_taken 72 = .ok (.iload_n 3, 1) := by decide +kernel
theorem dX9_taken_73 : decode cX9_taken 73 = .ok (.goto 5, 3) := by decide +kernel
theorem dX9_taken_76 : decode cX9_taken 76 = .ok (.bipush (-12), 2) := by decide +kernel
theorem dX9_taken_78 : decode cX9_taken 78 = .ok (.ireturn, 1) := by decide +kernel
theorem dX9_count_0 : decode cX9_count 0 = .ok (.iload_n 1, 1) := by decide +kernel
theorem dX9_count_1 : decode cX9_count 1 = .ok (.tableswitch 96 0 8 #[51, 56, 61, 66, 71, 76, 81, 86, 91], 51) := by decide +kernel
theorem dX9_count_52 : decode cX9_count 52 = .ok (.aload_n 0, 1) := by decide +kernel
theorem dX9_count_53 : decode cX9_count 53 = .ok (.getfield 13, 3) := by decide +kernel
theorem dX9_count_56 : decode cX9_count 56 = .ok (.ireturn, 1) := by decide +kernel
theorem dX9_count_57 : decode cX9_count 57 = .ok (.aload_n 0, 1) := by decide +kernel
theorem dX9_count_58 : decode cX9_count 58 = .ok (.getfield 7, 3) := by decide +kernel
theorem dX9_count_61 : decode cX9_count 61 = .ok (.ireturn, 1) := by decide +kernel
theorem dX9_count_62 : decode cX9_count 62 = .ok (.aload_n 0, 1) := by decide +kernel
theorem dX9_count_63 : decode cX9_count 63 = .ok (.getfield 59, 3) := by decide +kernel
theorem dX9_count_66 : decode cX9_count 66 = .ok (.ireturn, 1) := by decide +kernel
theorem dX9_count_67 : decode cX9_count 67 = .ok (.aload_n 0, 1) := by decide +kernel
theorem dX9_count_68 : decode cX9_count 68 = .ok (.getfield 34, 3) := by decide +kernel
theorem dX9_count_71 : decode cX9_count 71 = .ok (.ireturn, 1) := by decide +kernel
theorem dX9_count_72 : decode cX9_count 72 = .ok (.aload_n 0, 1) := by decide +kernel
theorem dX9_count_73 : decode cX9_count 73 = .ok (.getfield 159, 3) := by decide +kernel
theorem dX9_count_76 : decode cX9_count 76 = .ok (.ireturn, 1) := by decide +kernel
theorem dX9_count_77 : decode cX9_count 77 = .ok (.aload_n 0, 1) := by decide +kernel
theorem dX9_count_78 : decode cX9_count 78 = .ok (.getfield 171, 3) := by decide +kernel
theorem dX9_count_81 : decode cX9_count 81 = .ok (.ireturn, 1) := by decide +kernel
theorem dX9_count_82 : decode cX9_count 82 = .ok (.aload_n 0, 1) := by decide +kernel
theorem dX9_count_83 : decode cX9_count 83 = .ok (.getfield 174, 3) := by decide +kernel
theorem dX9_count_86 : decode cX9_count 86 = .ok (.ireturn, 1) := by decide +kernel
theorem dX9_count_87 : decode cX9_count 87 = .ok (.aload_n 0, 1) := by decide +kernel
theorem dX9_count_88 : decode cX9_count 88 = .ok (.getfield 65, 3) := by decide +kernel
theorem dX9_count_91 : decode cX9_count 91 = .ok (.ireturn, 1) := by decide +kernel
theorem dX9_count_92 : decode cX9_count 92 = .ok (.aload_n 0, 1) := by decide +kernel
theorem dX9_count_93 : decode cX9_count 93 = .ok (.getfield 274, 3) := by decide +kernel
theorem dX9_count_96 : decode cX9_count 96 = .ok (.ireturn, 1) := by decide +kernel
theorem dX9_count_97 : decode cX9_count 97 = .ok (.bipush (-2), 2) := by decide +kernel
theorem dX9_count_99 : decode cX9_count 99 = .ok (.ireturn, 1) := by decide +kernel
theorem dX9_isTape_0 : decode cX9_isTape 0 = .ok (.aload_n 0, 1) := by decide +kernel
theorem dX9_isTape_1 : decode cX9_isTape 1 = .ok (.iload_n 1, 1) := by decide +kernel
theorem dX9_isTape_2 : decode cX9_isTape 2 = .ok (.iconst 0, 1) := by decide +kernel
theorem dX9_isTape_3 : decode cX9_isTape 3 = .ok (.iconst 5, 1) := by decide +kernel
theorem dX9_isTape_4 : decode cX9_isTape 4 = .ok (.invokevirtual 293, 3) := by decide +kernel
theorem dX9_isTape_7 : decode cX9_isTape 7 = .ok (.ireturn, 1) := by decide +kernel
theorem dX9_tape_0 : decode cX9_tape 0 = .ok (.aload_n 0, 1) := by decide +kernel
theorem dX9_tape_1 : decode cX9_tape 1 = .ok (.iload_n 1, 1) := by decide +kernel
theorem dX9_tape_2 : decode cX9_tape 2 = .ok (.invokevirtual 469, 3) := by decide +kernel
theorem dX9_tape_5 : decode cX9_tape 5 = .ok (.ifCond .ne 5, 3) := by decide +kernel
theorem dX9_tape_8 : decode cX9_tape 8 = .ok (.iconst (-1), 1) := by decide +kernel
theorem dX9_tape_9 : decode cX9_tape 9 = .ok (.ireturn, 1) := by decide +kernel
theorem dX9_tape_10 : decode cX9_tape 10 = .ok (.aload_n 0, 1) := by decide +kernel
theorem dX9_tape_11 : decode cX9_tape 11 = .ok (.iload_n 2, 1) := by decide +kernel
theorem dX9_tape_12 : decode cX9_tape 12 = .ok (.iconst (-1), 1) := by decide +kernel
theorem dX9_tape_13 : decode cX9_tape 13 = .ok (.iconst 4, 1) := by decide +kernel
theorem dX9_tape_14 : decode cX9_tape 14 = .ok (.invokevirtual 293, 3) := by decide +kernel
theorem dX9_tape_17 : decode cX9_tape 17 = .ok (.ifCond .eq 13, 3) := by decide +kernel
theorem dX9_tape_20 : decode cX9_tape 20 = .ok (.iload_n 2, 1) := by decide +kernel
theorem dX9_tape_21 : decode cX9_tape 21 = .ok (.ifCond .lt 12, 3) := by decide +kernel
theorem dX9_tape_24 : decode cX9_tape 24 = .ok (.iload_n 3, 1) := by decide +kernel
theorem dX9_tape_25 : decode cX9_tape 25 = .ok (.bipush 60, 2) := by decide +kernel
theorem dX9_tape_27 : decode cX9_tape 27 = .ok (.if_icmp .le 6, 3) := by decide +kernel
theorem dX9_tape_30 : decode cX9_tape 30 = .ok (.bipush (-2), 2) := by decide +kernel
theorem dX9_tape_32 : decode cX9_tape 32 = .ok (.ireturn, 1) := by decide +kernel
theorem dX9_tape_33 : decode cX9_tape 33 = .ok (.iload_n 2, 1) := by decide +kernel
theorem dX9_tape_34 : decode cX9_tape 34 = .ok (.ifCond .lt 10, 3) := by decide +kernel
theorem dX9_tape_37 : decode cX9_tape 37 = .ok (.iload_n 3, 1) := by decide +kernel
theorem dX9_tape_38 : decode cX9_tape 38 = .ok (.ifCond .ge 6, 3) := by decide +kernel
theorem dX9_tape_41 : decode cX9_tape 41 = .ok (.bipush (-14), 2) := by decide +kernel
theorem dX9_tape_43 : decode cX9_tape 43 = .ok (.ireturn, 1) := by decide +kernel
theorem dX9_tape_44 : decode cX9_tape 44 = .ok (.aload_n 0, 1) := by decide +kernel
theorem dX9_tape_45 : decode cX9_tape 45 = .ok (.getfield 280, 3) := by decide +kernel
theorem dX9_tape_48 : decode cX9_tape 48 = .ok (.iload_n 1, 1) := by decide +kernel
theorem dX9_tape_49 : decode cX9_tape 49 = .ok (.iload_n 2, 1) := by decide +kernel
theorem dX9_tape_50 : decode cX9_tape 50 = .ok (.iastore, 1) := by decide +kernel
theorem dX9_tape_51 : decode cX9_tape 51 = .ok (.aload_n 0, 1) := by decide +kernel
theorem dX9_tape_52 : decode cX9_tape 52 = .ok (.getfield 283, 3) := by decide +kernel
theorem dX9_tape_55 : decode cX9_tape 55 = .ok (.iload_n 1, 1) := by decide +kernel
theorem dX9_tape_56 : decode cX9_tape 56 = .ok (.iload_n 2, 1) := by decide +kernel
theorem dX9_tape_57 : decode cX9_tape 57 = .ok (.ifCond .ge 7, 3) := by decide +kernel
theorem dX9_tape_60 : decode cX9_tape 60 = .ok (.iconst 0, 1) := by decide +kernel
theorem dX9_tape_61 : decode cX9_tape 61 = .ok (.goto 4, 3) := by decide +kernel
theorem dX9_tape_64 : decode cX9_tape 64 = .ok (.iload_n 3, 1) := by decide +kernel
theorem dX9_tape_65 : decode cX9_tape 65 = .ok (.iastore, 1) := by decide +kernel
theorem dX9_tape_66 : decode cX9_tape 66 = .ok (.iconst 0, 1) := by decide +kernel
theorem dX9_tape_67 : decode cX9_tape 67 = .ok (.istore 4, 2) := by decide +kernel
theorem dX9_tape_69 : decode cX9_tape 69 = .ok (.iload 4, 2) := by decide +kernel
theorem dX9_tape_71 : decode cX9_tape 71 = .ok (.bipush 60, 2) := by decide +kernel
theorem dX9_tape_73 : decode cX9_tape 73 = .ok (.if_icmp .ge 22, 3) := by decide +kernel
theorem dX9_tape_76 : decode cX9_tape 76 = .ok (.aload_n 0, 1) := by decide +kernel
theorem dX9_tape_77 : decode cX9_tape 77 = .ok (.getfield 286, 3) := by decide +kernel
theorem dX9_tape_80 : decode cX9_tape 80 = .ok (.bipush 60, 2) := by decide +kernel
theorem dX9_tape_82 : decode cX9_tape 82 = .ok (.iload_n 1, 1) := by decide +kernel
theorem dX9_tape_83 : decode cX9_tape 83 = .ok (.imul, 1) := by decide +kernel
theorem dX9_tape_84 : decode cX9_tape 84 = .ok (.iload 4, 2) := by decide +kernel
theorem dX9_tape_86 : decode cX9_tape 86 = .ok (.iadd, 1) := by decide +kernel
theorem dX9_tape_87 : decode cX9_tape 87 = .ok (.lconst 0, 1) := by decide +kernel
theorem dX9_tape_88 : decode cX9_tape 88 = .ok (.lastore, 1) := by decide +kernel
theorem dX9_tape_89 : decode cX9_tape 89 = .ok (.iinc 4 1, 3) := by decide +kernel
theorem dX9_tape_92 : decode cX9_tape 92 = .ok (.goto (-23), 3) := by decide +kernel
theorem dX9_tape_95 : decode cX9_tape 95 = .ok (.iconst 1, 1) := by decide +kernel
theorem dX9_tape_96 : decode cX9_tape 96 = .ok (.ireturn, 1) := by decide +kernel
theorem dX9_narrow_0 : decode cX9_narrow 0 = .ok (.iload_n 1, 1) := by decide +kernel
theorem dX9_narrow_1 : decode cX9_narrow 1 = .ok (.ifCond .ne 10, 3) := by decide +kernel
theorem dX9_narrow_4 : decode cX9_narrow 4 = .ok (.lload_n 2, 1) := by decide +kernel
theorem dX9_narrow_5 : decode cX9_narrow 5 = .ok (.l2i, 1) := by decide +kernel
theorem dX9_narrow_6 : decode cX9_narrow 6 = .ok (.i2b, 1) := by decide +kernel
theorem dX9_narrow_7 : decode cX9_narrow 7 = .ok (.i2l, 1) := by decide +kernel
theorem dX9_narrow_8 : decode cX9_narrow 8 = .ok (.goto 46, 3) := by decide +kernel
theorem dX9_narrow_11 : decode cX9_narrow 11 = .ok (.iload_n 1, 1) := by decide +kernel
theorem dX9_narrow_12 : decode cX9_narrow 12 = .ok (.iconst 1, 1) := by decide +kernel
theorem dX9_narrow_13 : decode cX9_narrow 13 = .ok (.if_icmp .ne 10, 3) := by decide +kernel
theorem dX9_narrow_16 : decode cX9_narrow 16 = .ok (.lload_n 2, 1) := by decide +kernel
theorem dX9_narrow_17 : decode cX9_narrow 17 = .ok (.l2i, 1) := by decide +kernel
theorem dX9_narrow_18 : decode cX9_narrow 18 = .ok (.i2s, 1) := by decide +kernel
theorem dX9_narrow_19 : decode cX9_narrow 19 = .ok (.i2l, 1) := by decide +kernel
theorem dX9_narrow_20 : decode cX9_narrow 20 = .ok (.goto 34, 3) := by decide +kernel
theorem dX9_narrow_23 : decode cX9_narrow 23 = .ok (.iload_n 1, 1) := by decide +kernel
theorem dX9_narrow_24 : decode cX9_narrow 24 = .ok (.iconst 2, 1) := by decide +kernel
theorem dX9_narrow_25 : decode cX9_narrow 25 = .ok (.if_icmp .ne 9, 3) := by decide +kernel
theorem dX9_narrow_28 : decode cX9_narrow 28 = .ok (.lload_n 2, 1) := by decide +kernel
theorem dX9_narrow_29 : decode cX9_narrow 29 = .ok (.l2i, 1) := by decide +kernel
theorem dX9_narrow_30 : decode cX9_narrow 30 = .ok (.i2l, 1) := by decide +kernel
theorem dX9_narrow_31 : decode cX9_narrow 31 = .ok (.goto 23, 3) := by decide +kernel
theorem dX9_narrow_34 : decode cX9_narrow 34 = .ok (.iload_n 1, 1) := by decide +kernel
theorem dX9_narrow_35 : decode cX9_narrow 35 = .ok (.iconst 4, 1) := by decide +kernel
theorem dX9_narrow_36 : decode cX9_narrow 36 = .ok (.if_icmp .ne 17, 3) := by decide +kernel
theorem dX9_narrow_39 : decode cX9_narrow 39 = .ok (.lload_n 2, 1) := by decide +kernel
theorem dX9_narrow_40 : decode cX9_narrow 40 = .ok (.lconst 0, 1) := by decide +kernel
theorem dX9_narrow_41 : decode cX9_narrow 41 = .ok (.lcmp, 1) := by decide +kernel
theorem dX9_narrow_42 : decode cX9_narrow 42 = .ok (.ifCond .eq 7, 3) := by decide +kernel
theorem dX9_narrow_45 : decode cX9_narrow 45 = .ok (.lconst 1, 1) := by decide +kernel
theorem dX9_narrow_46 : decode cX9_narrow 46 = .ok (.goto 8, 3) := by decide +kernel
theorem dX9_narrow_49 : decode cX9_narrow 49 = .ok (.lconst 0, 1) := by decide +kernel
theorem dX9_narrow_50 : decode cX9_narrow 50 = .ok (.goto 4, 3) := by decide +kernel
theorem dX9_narrow_53 : decode cX9_narrow 53 = .ok (.lload_n 2, 1) := by decide +kernel
theorem dX9_narrow_54 : decode cX9_narrow 54 = .ok (.lreturn, 1) := by decide +kernel
theorem dX9_item_0 : decode cX9_item 0 = .ok (.aload_n 0, 1) := by decide +kernel
theorem dX9_item_1 : decode cX9_item 1 = .ok (.iload_n 1, 1) := by decide +kernel
theorem dX9_item_2 : decode cX9_item 2 = .ok (.invokevirtual 469, 3) := by decide +kernel
theorem dX9_item_5 : decode cX9_item 5 = .ok (.ifCond .ne 5, 3) := by decide +kernel
theorem dX9_item_8 : decode cX9_item 8 = .ok (.iconst (-1), 1) := by decide +kernel
theorem dX9_item_9 : decode cX9_item 9 = .ok (.ireturn, 1) := by decide +kernel
theorem dX9_item_10 : decode cX9_item 10 = .ok (.aload_n 0, 1) := by decide +kernel
theorem dX9_item_11 : decode cX9_item 11 = .ok (.getfield 280, 3) := by decide +kernel
theorem dX9_item_14 : decode cX9_item 14 = .ok (.iload_n 1, 1) := by decide +kernel
theorem dX9_item_15 : decode cX9_item 15 = .ok (.iaload, 1) := by decide +kernel
theorem dX9_item_16 : decode cX9_item 16 = .ok (.ifCond .ge 6, 3) := by decide +kernel
theorem dX9_item_19 : decode cX9_item 19 = .ok (.bipush (-11), 2) := by decide +kernel
theorem dX9_item_21 : decode cX9_item 21 = .ok (.ireturn, 1) := by decide +kernel
theorem dX9_item_22 : decode cX9_item 22 = .ok (.aload_n 0, 1) := by decide +kernel
theorem dX9_item_23 : decode cX9_item 23 = .ok (.iload_n 2, 1) := by decide +kernel
theorem dX9_item_24 : decode cX9_item 24 = .ok (.iconst 0, 1) := by decide +kernel
theorem dX9_item_25 : decode cX9_item 25 = .ok (.aload_n 0, 1) := by decide +kernel
theorem dX9_item_26 : decode cX9_item 26 = .ok (.getfield 283, 3) := by decide +kernel
theorem dX9_item_29 : decode cX9_item 29 = .ok (.iload_n 1, 1) := by decide +kernel
theorem dX9_item_30 : decode cX9_item 30 = .ok (.iaload, 1) := by decide +kernel
theorem dX9_item_31 : decode cX9_item 31 = .ok (.iconst 1, 1) := by decide +kernel
theorem dX9_item_32 : decode cX9_item 32 = .ok (.isub, 1) := by decide +kernel
theorem dX9_item_33 : decode cX9_item 33 = .ok (.invokevirtual 293, 3) := by decide +kernel
theorem dX9_item_36 : decode cX9_item 36 = .ok (.ifCond .ne 6, 3) := by decide +kernel
theorem dX9_item_39 : decode cX9_item 39 = .ok (.bipush (-13), 2) := by decide +kernel
theorem dX9_item_41 : decode cX9_item 41 = .ok (.ireturn, 1) := by decide +kernel
theorem dX9_item_42 : decode cX9_item 42 = .ok (.aload_n 0, 1) := by decide +kernel
theorem dX9_item_43 : decode cX9_item 43 = .ok (.getfield 286, 3) := by decide +kernel
theorem dX9_item_46 : decode cX9_item 46 = .ok (.bipush 60, 2) := by decide +kernel
theorem dX9_item_48 : decode cX9_item 48 = .ok (.iload_n 1, 1) := by decide +kernel
theorem dX9_item_49 : decode cX9_item 49 = .ok (.imul, 1) := by decide +kernel
theorem dX9_item_50 : decode cX9_item 50 = .ok (.iload_n 2, 1) := by decide +kernel
theorem dX9_item_51 : decode cX9_item 51 = .ok (.iadd, 1) := by decide +kernel
theorem dX9_item_52 : decode cX9_item 52 = .ok (.aload_n 0, 1) := by decide +kernel
theorem dX9_item_53 : decode cX9_item 53 = .ok (.aload_n 0, 1) := by decide +kernel
theorem dX9_item_54 : decode cX9_item 54 = .ok (.getfield 280, 3) := by decide +kernel
theorem dX9_item_57 : decode cX9_item 57 = .ok (.iload_n 1, 1) := by decide +kernel
theorem dX9_item_58 : decode cX9_item 58 = .ok (.iaload, 1) := by decide +kernel
theorem dX9_item_59 : decode cX9_item 59 = .ok (.lload_n 3, 1) := by decide +kernel
theorem dX9_item_60 : decode cX9_item 60 = .ok (.invokevirtual 496, 3) := by decide +kernel
theorem dX9_item_63 : decode cX9_item 63 = .ok (.lastore, 1) := by decide +kernel
theorem dX9_item_64 : decode cX9_item 64 = .ok (.iconst 1, 1) := by decide +kernel
theorem dX9_item_65 : decode cX9_item 65 = .ok (.ireturn, 1) := by decide +kernel
theorem dX9_read_0 : decode cX9_read 0 = .ok (.aload_n 0, 1) := by decide +kernel
theorem dX9_read_1 : decode cX9_read 1 = .ok (.iload_n 1, 1) := by decide +kernel
theorem dX9_read_2 : decode cX9_read 2 = .ok (.invokevirtual 469, 3) := by decide +kernel
theorem dX9_read_5 : decode cX9_read 5 = .ok (.ifCond .eq 29, 3) := by decide +kernel
theorem dX9_read_8 : decode cX9_read 8 = .ok (.aload_n 0, 1) := by decide +kernel
theorem dX9_read_9 : decode cX9_read 9 = .ok (.getfield 280, 3) := by decide +kernel
theorem dX9_read_12 : decode cX9_read 12 = .ok (.iload_n 1, 1) := by decide +kernel
theorem dX9_read_13 : decode cX9_read 13 = .ok (.iaload, 1) := by decide +kernel
theorem dX9_read_14 : decode cX9_read 14 = .ok (.ifCond .lt 20, 3) := by decide +kernel
theorem dX9_read_17 : decode cX9_read 17 = .ok (.aload_n 0, 1) := by decide +kernel
theorem dX9_read_18 : decode cX9_read 18 = .ok (.iload_n 2, 1) := by decide +kernel
theorem dX9_read_19 : decode cX9_read 19 = .ok (.iconst 0, 1) := by decide +kernel
theorem dX9_read_20 : decode cX9_read 20 = .ok (.aload_n 0, 1) := by decide +kernel
theorem dX9_read_21 : decode cX9_read 21 = .ok (.getfield 283, 3) := by decide +kernel
theorem dX9_read_24 : decode cX9_read 24 = .ok (.iload_n 1, 1) := by decide +kernel
theorem dX9_read_25 : decode cX9_read 25 = .ok (.iaload, 1) := by decide +kernel
theorem dX9_read_26 : decode cX9_read 26 = .ok (.iconst 1, 1) := by decide +kernel
theorem dX9_read_27 : decode cX9_read 27 = .ok (.isub, 1) := by decide +kernel
theorem dX9_read_28 : decode cX9_read 28 = .ok (.invokevirtual 293, 3) := by decide +kernel
theorem dX9_read_31 : decode cX9_read 31 = .ok (.ifCond .ne 9, 3) := by decide +kernel
theorem dX9_read_34 : decode cX9_read 34 = .ok (.ldc2_w 463, 3) := by decide +kernel
theorem dX9_read_37 : decode cX9_read 37 = .ok (.goto 14, 3) := by decide +kernel
theorem dX9_read_40 : decode cX9_read 40 = .ok (.aload_n 0, 1) := by decide +kernel
theorem dX9_read_41 : decode cX9_read 41 = .ok (.getfield 286, 3) := by decide +kernel
theorem dX9_read_44 : decode cX9_read 44 = .ok (.bipush 60, 2) := by decide +kernel
theorem dX9_read_46 : decode cX9_read 46 = .ok (.iload_n 1, 1) := by decide +kernel
theorem dX9_read_47 : decode cX9_read 47 = .ok (.imul, 1) := by decide +kernel
theorem dX9_read_48 : decode cX9_read 48 = .ok (.iload_n 2, 1) := by decide +kernel
theorem dX9_read_49 : decode cX9_read 49 = .ok (.iadd, 1) := by decide +kernel
theorem dX9_read_50 : decode cX9_read 50 = .ok (.laload, 1) := by decide +kernel
theorem dX9_read_51 : decode cX9_read 51 = .ok (.lreturn, 1) := by decide +kernel
theorem dX9_shift_0 : decode cX9_shift 0 = .ok (.aload_n 0, 1) := by decide +kernel
theorem dX9_shift_1 : decode cX9_shift 1 = .ok (.iload_n 1, 1) := by decide +kernel
theorem dX9_shift_2 : decode cX9_shift 2 = .ok (.invokevirtual 469, 3) := by decide +kernel
theorem dX9_shift_5 : decode cX9_shift 5 = .ok (.ifCond .eq 11, 3) := by decide +kernel
theorem dX9_shift_8 : decode cX9_shift 8 = .ok (.aload_n 0, 1) := by decide +kernel
theorem dX9_shift_9 : decode cX9_shift 9 = .ok (.iload_n 3, 1) := by decide +kernel
theorem dX9_shift_10 : decode cX9_shift 10 = .ok (.invokevirtual 469, 3) := by decide +kernel
theorem dX9_shift_13 : decode cX9_shift 13 = .ok (.ifCond .ne 5, 3) := by decide +kernel
theorem dX9_shift_16 : decode cX9_shift 16 = .ok (.iconst (-1), 1) := by decide +kernel
theorem dX9_shift_17 : decode cX9_shift 17 = .ok (.ireturn, 1) := by decide +kernel
theorem dX9_shift_18 : decode cX9_shift 18 = .ok (.aload_n 0, 1) := by decide +kernel
theorem dX9_shift_19 : decode cX9_shift 19 = .ok (.getfield 280, 3) := by decide +kernel
theorem dX9_shift_22 : decode cX9_shift 22 = .ok (.iload_n 1, 1) := by decide +kernel
theorem dX9_shift_23 : decode cX9_shift 23 = .ok (.iaload, 1) := by decide +kernel
theorem dX9_shift_24 : decode cX9_shift 24 = .ok (.ifCond .lt 12, 3) := by decide +kernel
theorem dX9_shift_27 : decode cX9_shift 27 = .ok (.aload_n 0, 1) := by decide +kernel
theorem dX9_shift_28 : decode cX9_shift 28 = .ok (.getfield 280, 3) := by decide +kernel
theorem dX9_shift_31 : decode cX9_shift 31 = .ok (.iload_n 3, 1) := by decide +kernel
theorem dX9_shift_32 : decode cX9_shift 32 = .ok (.iaload, 1) := by decide +kernel
theorem dX9_shift_33 : decode cX9_shift 33 = .ok (.ifCond .ge 6, 3) := by decide +kernel
theorem dX9_shift_36 : decode cX9_shift 36 = .ok (.bipush (-11), 2) := by decide +kernel
theorem dX9_shift_38 : decode cX9_shift 38 = .ok (.ireturn, 1) := by decide +kernel
theorem dX9_shift_39 : decode cX9_shift 39 = .ok (.aload_n 0, 1) := by decide +kernel
theorem dX9_shift_40 : decode cX9_shift 40 = .ok (.getfield 280, 3) := by decide +kernel
theorem dX9_shift_43 : decode cX9_shift 43 = .ok (.iload_n 1, 1) := by decide +kernel
theorem dX9_shift_44 : decode cX9_shift 44 = .ok (.iaload, 1) := by decide +kernel
theorem dX9_shift_45 : decode cX9_shift 45 = .ok (.aload_n 0, 1) := by decide +kernel
theorem dX9_shift_46 : decode cX9_shift 46 = .ok (.getfield 280, 3) := by decide +kernel
theorem dX9_shift_49 : decode cX9_shift 49 = .ok (.iload_n 3, 1) := by decide +kernel
theorem dX9_shift_50 : decode cX9_shift 50 = .ok (.iaload, 1) := by decide +kernel
theorem dX9_shift_51 : decode cX9_shift 51 = .ok (.if_icmp .eq 6, 3) := by decide +kernel
theorem dX9_shift_54 : decode cX9_shift 54 = .ok (.bipush (-12), 2) := by decide +kernel
theorem dX9_shift_56 : decode cX9_shift 56 = .ok (.ireturn, 1) := by decide +kernel
theorem dX9_shift_57 : decode cX9_shift 57 = .ok (.iload 5, 2) := by decide +kernel
theorem dX9_shift_59 : decode cX9_shift 59 = .ok (.ifCond .lt 39, 3) := by decide +kernel
theorem dX9_shift_62 : decode cX9_shift 62 = .ok (.iload_n 2, 1) := by decide +kernel
theorem dX9_shift_63 : decode cX9_shift 63 = .ok (.ifCond .lt 35, 3) := by decide +kernel
theorem dX9_shift_66 : decode cX9_shift 66 = .ok (.iload 4, 2) := by decide +kernel
theorem dX9_shift_68 : decode cX9_shift 68 = .ok (.ifCond .lt 30, 3) := by decide +kernel
theorem dX9_shift_71 : decode cX9_shift 71 = .ok (.iload_n 2, 1) := by decide +kernel
theorem dX9_shift_72 : decode cX9_shift 72 = .ok (.aload_n 0, 1) := by decide +kernel
theorem dX9_shift_73 : decode cX9_shift 73 = .ok (.getfield 283, 3) := by decide +kernel
theorem dX9_shift_76 : decode cX9_shift 76 = .ok (.iload_n 1, 1) := by decide +kernel
theorem dX9_shift_77 : decode cX9_shift 77 = .ok (.iaload, 1) := by decide +kernel
theorem dX9_shift_78 : decode cX9_shift 78 = .ok (.iload 5, 2) := by decide +kernel
theorem dX9_shift_80 : decode cX9_shift 80 = .ok (.isub, 1) := by decide +kernel
theorem dX9_shift_81 : decode cX9_shift 81 = .ok (.if_icmp .gt 17, 3) := by decide +kernel
theorem dX9_shift_84 : decode cX9_shift 84 = .ok (.iload 4, 2) := by decide +kernel
theorem dX9_shift_86 : decode cX9_shift 86 = .ok (.aload_n 0, 1) := by decide +kernel
theorem dX9_shift_87 : decode cX9_shift 87 = .ok (.getfield 283, 3) := by decide +kernel
theorem dX9_shift_90 : decode cX9_shift 90 = .ok (.iload_n 3, 1) := by decide +kernel
theorem dX9_shift_91 : decode cX9_shift 91 = .ok (.iaload, 1) := by decide +kernel
theorem dX9_shift_92 : decode cX9_shift 92 = .ok (.iload 5, 2) := by decide +kernel
theorem dX9_shift_94 : decode cX9_shift 94 = .ok (.isub, 1) := by decide +kernel
theorem dX9_shift_95 : decode cX9_shift 95 = .ok (.if_icmp .le 6, 3) := by decide +kernel
theorem dX9_shift_98 : decode cX9_shift 98 = .ok (.bipush (-13), 2) := by decide +kernel
theorem dX9_shift_100 : decode cX9_shift 100 = .ok (.ireturn, 1) := by decide +kernel
theorem dX9_shift_101 : decode cX9_shift 101 = .ok (.iconst 0, 1) := by decide +kernel
theorem dX9_shift_102 : decode cX9_shift 102 = .ok (.istore 6, 2) := by decide +kernel
theorem dX9_shift_104 : decode cX9_shift 104 = .ok (.iload 6, 2) := by decide +kernel
theorem dX9_shift_106 : decode cX9_shift 106 = .ok (.iload 5, 2) := by decide +kernel
theorem dX9_shift_108 : decode cX9_shift 108 = .ok (.if_icmp .ge 30, 3) := by decide +kernel
theorem dX9_shift_111 : decode cX9_shift 111 = .ok (.aload_n 0, 1) := by decide +kernel
theorem dX9_shift_112 : decode cX9_shift 112 = .ok (.getfield 290, 3) := by decide +kernel
theorem dX9_shift_115 : decode cX9_shift 115 = .ok (.iload 6, 2) := by decide +kernel
theorem dX9_shift_117 : decode cX9_shift 117 = .ok (.aload_n 0, 1) := by decide +kernel
theorem dX9_shift_118 : decode cX9_shift 118 = .ok (.getfield 286, 3) := by decide +kernel
theorem dX9_shift_121 : decode cX9_shift 121 = .ok (.bipush 60, 2) := by decide +kernel
theorem dX9_shift_123 : decode cX9_shift 123 = .ok (.iload_n 1, 1) := by decide +kernel
theorem dX9_shift_124 : decode cX9_shift 124 = .ok (.imul, 1) := by decide +kernel
theorem dX9_shift_125 : decode cX9_shift 125 = .ok (.iload_n 2, 1) := by decide +kernel
theorem dX9_shift_126 : decode cX9_shift 126 = .ok (.iadd, 1) := by decide +kernel
theorem dX9_shift_127 : decode cX9_shift 127 = .ok (.iload 6, 2) := by decide +kernel
theorem dX9_shift_129 : decode cX9_shift 129 = .ok (.iadd, 1) := by decide +kernel
theorem dX9_shift_130 : decode cX9_shift 130 = .ok (.laload, 1) := by decide +kernel
theorem dX9_shift_131 : decode cX9_shift 131 = .ok (.lastore, 1) := by decide +kernel
theorem dX9_shift_132 : decode cX9_shift 132 = .ok (.iinc 6 1, 3) := by decide +kernel
theorem dX9_shift_135 : decode cX9_shift 135 = .ok (.goto (-31), 3) := by decide +kernel
theorem dX9_shift_138 : decode cX9_shift 138 = .ok (.iconst 0, 1) := by decide +kernel
theorem dX9_shift_139 : decode cX9_shift 139 = .ok (.istore 6, 2) := by decide +kernel
theorem dX9_shift_141 : decode cX9_shift 141 = .ok (.iload 6, 2) := by decide +kernel
theorem dX9_shift_143 : decode cX9_shift 143 = .ok (.iload 5, 2) := by decide +kernel
theorem dX9_shift_145 : decode cX9_shift 145 = .ok (.if_icmp .ge 31, 3) := by decide +kernel
theorem dX9_shift_148 : decode cX9_shift 148 = .ok (.aload_n 0, 1) := by decide +kernel
theorem dX9_shift_149 : decode cX9_shift 149 = .ok (.getfield 286, 3) := by decide +kernel
theorem dX9_shift_152 : decode cX9_shift 152 = .ok (.bipush 60, 2) := by decide +kernel
theorem dX9_shift_154 : decode cX9_shift 154 = .ok (.iload_n 3, 1) := by decide +kernel
theorem dX9_shift_155 : decode cX9_shift 155 = .ok (.imul, 1) := by decide +kernel
theorem dX9_shift_156 : decode cX9_shift 156 = .ok (.iload 4, 2) := by decide +kernel
theorem dX9_shift_158 : decode cX9_shift 158 = .ok (.iadd, 1) := by decide +kernel
theorem dX9_shift_159 : decode cX9_shift 159 = .ok (.iload 6, 2) := by decide +kernel
theorem dX9_shift_161 : decode cX9_shift 161 = .ok (.iadd, 1) := by decide +kernel
theorem dX9_shift_162 : decode cX9_shift 162 = .ok (.aload_n 0, 1) := by decide +kernel
theorem dX9_shift_163 : decode cX9_shift 163 = .ok (.getfield 290, 3) := by decide +kernel
theorem dX9_shift_166 : decode cX9_shift 166 = .ok (.iload 6, 2) := by decide +kernel
theorem dX9_shift_168 : decode cX9_shift 168 = .ok (.laload, 1) := by decide +kernel
theorem dX9_shift_169 : decode cX9_shift 169 = .ok (.lastore, 1) := by decide +kernel
theorem dX9_shift_170 : decode cX9_shift 170 = .ok (.iinc 6 1, 3) := by decide +kernel
theorem dX9_shift_173 : decode cX9_shift 173 = .ok (.goto (-32), 3) := by decide +kernel
theorem dX9_shift_176 : decode cX9_shift 176 = .ok (.iload 5, 2) := by decide +kernel
theorem dX9_shift_178 : decode cX9_shift 178 = .ok (.ireturn, 1) := by decide +kernel
theorem dJ11_isValidCodePoint_9a6ad_0 : decode cJ11_isValidCodePoint_9a6ad 0 = .ok (.iload_n 0, 1) := by decide +kernel
theorem dJ11_isValidCodePoint_9a6ad_1 : decode cJ11_isValidCodePoint_9a6ad 1 = .ok (.bipush 16, 2) := by decide +kernel
theorem dJ11_isValidCodePoint_9a6ad_3 : decode cJ11_isValidCodePoint_9a6ad 3 = .ok (.iushr, 1) := by decide +kernel
theorem dJ11_isValidCodePoint_9a6ad_4 : decode cJ11_isValidCodePoint_9a6ad 4 = .ok (.istore_n 1, 1) := by decide +kernel
theorem dJ11_isValidCodePoint_9a6ad_5 : decode cJ11_isValidCodePoint_9a6ad 5 = .ok (.iload_n 1, 1) := by decide +kernel
theorem dJ11_isValidCodePoint_9a6ad_6 : decode cJ11_isValidCodePoint_9a6ad 6 = .ok (.bipush 17, 2) := by decide +kernel
theorem dJ11_isValidCodePoint_9a6ad_8 : decode cJ11_isValidCodePoint_9a6ad 8 = .ok (.if_icmp .ge 7, 3) := by decide +kernel
theorem dJ11_isValidCodePoint_9a6ad_11 : decode cJ11_isValidCodePoint_9a6ad 11 = .ok (.iconst 1, 1) := by decide +kernel
theorem dJ11_isValidCodePoint_9a6ad_12 : decode cJ11_isValidCodePoint_9a6ad 12 = .ok (.goto 4, 3) := by decide +kernel
theorem dJ11_isValidCodePoint_9a6ad_15 : decode cJ11_isValidCodePoint_9a6ad 15 = .ok (.iconst 0, 1) := by decide +kernel
theorem dJ11_isValidCodePoint_9a6ad_16 : decode cJ11_isValidCodePoint_9a6ad 16 = .ok (.ireturn, 1) := by decide +kernel
theorem dJ11_highSurrogate_5068e_0 : decode cJ11_highSurrogate_5068e 0 = .ok (.iload_n 0, 1) := by decide +kernel
theorem dJ11_highSurrogate_5068e_1 : decode cJ11_highSurrogate_5068e 1 = .ok (.bipush 10, 2) := by decide +kernel
theorem dJ11_highSurrogate_5068e_3 : decode cJ11_highSurrogate_5068e 3 = .ok (.iushr, 1) := by decide +kernel
theorem dJ11_highSurrogate_5068e_4 : decode cJ11_highSurrogate_5068e 4 = .ok (.ldc 110, 2) := by decide +kernel
theorem dJ11_highSurrogate_5068e_6 : decode cJ11_highSurrogate_5068e 6 = .ok (.iadd, 1) := by decide +kernel
theorem dJ11_highSurrogate_5068e_7 : decode cJ11_highSurrogate_5068e 7 = .ok (.i2c, 1) := by decide +kernel
theorem dJ11_highSurrogate_5068e_8 : decode cJ11_highSurrogate_5068e 8 = .ok (.ireturn, 1) := by decide +kernel
theorem dJ11_lowSurrogate_5068e_0 : decode cJ11_lowSurrogate_5068e 0 = .ok (.iload_n 0, 1) := by decide +kernel
theorem dJ11_lowSurrogate_5068e_1 : decode cJ11_lowSurrogate_5068e 1 = .ok (.sipush 1023, 3) := by decide +kernel
theorem dJ11_lowSurrogate_5068e_4 : decode cJ11_lowSurrogate_5068e 4 = .ok (.iand, 1) := by decide +kernel
theorem dJ11_lowSurrogate_5068e_5 : decode cJ11_lowSurrogate_5068e 5 = .ok (.ldc 76, 2) := by decide +kernel
theorem dJ11_lowSurrogate_5068e_7 : decode cJ11_lowSurrogate_5068e 7 = .ok (.iadd, 1) := by decide +kernel
theorem dJ11_lowSurrogate_5068e_8 : decode cJ11_lowSurrogate_5068e 8 = .ok (.i2c, 1) := by decide +kernel
theorem dJ11_lowSurrogate_5068e_9 : decode cJ11_lowSurrogate_5068e 9 = .ok (.ireturn, 1) := by decide +kernel
theorem dJ6_numberOfTrailingZeros_0f7a4_0 : decode cJ6_numberOfTrailingZeros_0f7a4 0 = .ok (.iload_n 0, 1) := by decide +kernel
theorem dJ6_numberOfTrailingZeros_0f7a4_1 : decode cJ6_numberOfTrailingZeros_0f7a4 1 = .ok (.iconst (-1), 1) := by decide +kernel
theorem dJ6_numberOfTrailingZeros_0f7a4_2 : decode cJ6_numberOfTrailingZeros_0f7a4 2 = .ok (.ixor, 1) := by decide +kernel
theorem dJ6_numberOfTrailingZeros_0f7a4_3 : decode cJ6_numberOfTrailingZeros_0f7a4 3 = .ok (.iload_n 0, 1) := by decide +kernel
theorem dJ6_numberOfTrailingZeros_0f7a4_4 : decode cJ6_numberOfTrailingZeros_0f7a4 4 = .ok (.iconst 1, 1) := by decide +kernel
theorem dJ6_numberOfTrailingZeros_0f7a4_5 : decode cJ6_numberOfTrailingZeros_0f7a4 5 = .ok (.isub, 1) := by decide +kernel
theorem dJ6_numberOfTrailingZeros_0f7a4_6 : decode cJ6_numberOfTrailingZeros_0f7a4 6 = .ok (.iand, 1) := by decide +kernel
theorem dJ6_numberOfTrailingZeros_0f7a4_7 : decode cJ6_numberOfTrailingZeros_0f7a4 7 = .ok (.istore_n 0, 1) := by decide +kernel
theorem dJ6_numberOfTrailingZeros_0f7a4_8 : decode cJ6_numberOfTrailingZeros_0f7a4 8 = .ok (.iload_n 0, 1) := by decide +kernel
theorem dJ6_numberOfTrailingZeros_0f7a4_9 : decode cJ6_numberOfTrailingZeros_0f7a4 9 = .ok (.ifCond .gt 8, 3) := by decide +kernel
theorem dJ6_numberOfTrailingZeros_0f7a4_12 : decode cJ6_numberOfTrailingZeros_0f7a4 12 = .ok (.iload_n 0, 1) := by decide +kernel
theorem dJ6_numberOfTrailingZeros_0f7a4_13 : decode cJ6_numberOfTrailingZeros_0f7a4 13 = .ok (.bipush 32, 2) := by decide +kernel
theorem dJ6_numberOfTrailingZeros_0f7a4_15 : decode cJ6_numberOfTrailingZeros_0f7a4 15 = .ok (.iand, 1) := by decide +kernel
theorem dJ6_numberOfTrailingZeros_0f7a4_16 : decode cJ6_numberOfTrailingZeros_0f7a4 16 = .ok (.ireturn, 1) := by decide +kernel
theorem dJ6_numberOfTrailingZeros_0f7a4_17 : decode cJ6_numberOfTrailingZeros_0f7a4 17 = .ok (.iconst 1, 1) := by decide +kernel
theorem dJ6_numberOfTrailingZeros_0f7a4_18 : decode cJ6_numberOfTrailingZeros_0f7a4 18 = .ok (.istore_n 1, 1) := by decide +kernel
theorem dJ6_numberOfTrailingZeros_0f7a4_19 : decode cJ6_numberOfTrailingZeros_0f7a4 19 = .ok (.iload_n 0, 1) := by decide +kernel
theorem dJ6_numberOfTrailingZeros_0f7a4_20 : decode cJ6_numberOfTrailingZeros_0f7a4 20 = .ok (.ldc_w 264, 3) := by decide +kernel
theorem dJ6_numberOfTrailingZeros_0f7a4_23 : decode cJ6_numberOfTrailingZeros_0f7a4 23 = .ok (.if_icmp .le 11, 3) := by decide +kernel
theorem dJ6_numberOfTrailingZeros_0f7a4_26 : decode cJ6_numberOfTrailingZeros_0f7a4 26 = .ok (.iinc 1 16, 3) := by decide +kernel
theorem dJ6_numberOfTrailingZeros_0f7a4_29 : decode cJ6_numberOfTrailingZeros_0f7a4 29 = .ok (.iload_n 0, 1) := by decide +kernel
theorem dJ6_numberOfTrailingZeros_0f7a4_30 : decode cJ6_numberOfTrailingZeros_0f7a4 30 = .ok (.bipush 16, 2) := by decide +kernel
theorem dJ6_numberOfTrailingZeros_0f7a4_32 : decode cJ6_numberOfTrailingZeros_0f7a4 32 = .ok (.iushr, 1) := by decide +kernel
theorem dJ6_numberOfTrailingZeros_0f7a4_33 : decode cJ6_numberOfTrailingZeros_0f7a4 33 = .ok (.istore_n 0, 1) := by decide +kernel
theorem dJ6_numberOfTrailingZeros_0f7a4_34 : decode cJ6_numberOfTrailingZeros_0f7a4 34 = .ok (.iload_n 0, 1) := by decide +kernel
theorem dJ6_numberOfTrailingZeros_0f7a4_35 : decode cJ6_numberOfTrailingZeros_0f7a4 35 = .ok (.sipush 256, 3) := by decide +kernel
theorem dJ6_numberOfTrailingZeros_0f7a4_38 : decode cJ6_numberOfTrailingZeros_0f7a4 38 = .ok (.if_icmp .le 11, 3) := by decide +kernel
theorem dJ6_numberOfTrailingZeros_0f7a4_41 : decode cJ6_numberOfTrailingZeros_0f7a4 41 = .ok (.iinc 1 8, 3) := by decide +kernel
theorem dJ6_numberOfTrailingZeros_0f7a4_44 : decode cJ6_numberOfTrailingZeros_0f7a4 44 = .ok (.iload_n 0, 1) := by decide +kernel
theorem dJ6_numberOfTrailingZeros_0f7a4_45 : decode cJ6_numberOfTrailingZeros_0f7a4 45 = .ok (.bipush 8, 2) := by decide +kernel
theorem dJ6_numberOfTrailingZeros_0f7a4_47 : decode cJ6_numberOfTrailingZeros_0f7a4 47 = .ok (.iushr, 1) := by decide +kernel
theorem dJ6_numberOfTrailingZeros_0f7a4_48 : decode cJ6_numberOfTrailingZeros_0f7a4 48 = .ok (.istore_n 0, 1) := by decide +kernel
theorem dJ6_numberOfTrailingZeros_0f7a4_49 : decode cJ6_numberOfTrailingZeros_0f7a4 49 = .ok (.iload_n 0, 1) := by decide +kernel
theorem dJ6_numberOfTrailingZeros_0f7a4_50 : decode cJ6_numberOfTrailingZeros_0f7a4 50 = .ok (.bipush 16, 2) := by decide +kernel
theorem dJ6_numberOfTrailingZeros_0f7a4_52 : decode cJ6_numberOfTrailingZeros_0f7a4 52 = .ok (.if_icmp .le 10, 3) := by decide +kernel
theorem dJ6_numberOfTrailingZeros_0f7a4_55 : decode cJ6_numberOfTrailingZeros_0f7a4 55 = .ok (.iinc 1 4, 3) := by decide +kernel
theorem dJ6_numberOfTrailingZeros_0f7a4_58 : decode cJ6_numberOfTrailingZeros_0f7a4 58 = .ok (.iload_n 0, 1) := by decide +kernel
theorem dJ6_numberOfTrailingZeros_0f7a4_59 : decode cJ6_numberOfTrailingZeros_0f7a4 59 = .ok (.iconst 4, 1) := by decide +kernel
theorem dJ6_numberOfTrailingZeros_0f7a4_60 : decode cJ6_numberOfTrailingZeros_0f7a4 60 = .ok (.iushr, 1) := by decide +kernel
theorem dJ6_numberOfTrailingZeros_0f7a4_61 : decode cJ6_numberOfTrailingZeros_0f7a4 61 = .ok (.istore_n 0, 1) := by decide +kernel
theorem dJ6_numberOfTrailingZeros_0f7a4_62 : decode cJ6_numberOfTrailingZeros_0f7a4 62 = .ok (.iload_n 0, 1) := by decide +kernel
theorem dJ6_numberOfTrailingZeros_0f7a4_63 : decode cJ6_numberOfTrailingZeros_0f7a4 63 = .ok (.iconst 4, 1) := by decide +kernel
theorem dJ6_numberOfTrailingZeros_0f7a4_64 : decode cJ6_numberOfTrailingZeros_0f7a4 64 = .ok (.if_icmp .le 10, 3) := by decide +kernel
theorem dJ6_numberOfTrailingZeros_0f7a4_67 : decode cJ6_numberOfTrailingZeros_0f7a4 67 = .ok (.iinc 1 2, 3) := by decide +kernel
theorem dJ6_numberOfTrailingZeros_0f7a4_70 : decode cJ6_numberOfTrailingZeros_0f7a4 70 = .ok (.iload_n 0, 1) := by decide +kernel
theorem dJ6_numberOfTrailingZeros_0f7a4_71 : decode cJ6_numberOfTrailingZeros_0f7a4 71 = .ok (.iconst 2, 1) := by decide +kernel
theorem dJ6_numberOfTrailingZeros_0f7a4_72 : decode cJ6_numberOfTrailingZeros_0f7a4 72 = .ok (.iushr, 1) := by decide +kernel
theorem dJ6_numberOfTrailingZeros_0f7a4_73 : decode cJ6_numberOfTrailingZeros_0f7a4 73 = .ok (.istore_n 0, 1) := by decide +kernel
theorem dJ6_numberOfTrailingZeros_0f7a4_74 : decode cJ6_numberOfTrailingZeros_0f7a4 74 = .ok (.iload_n 1, 1) := by decide +kernel
theorem dJ6_numberOfTrailingZeros_0f7a4_75 : decode cJ6_numberOfTrailingZeros_0f7a4 75 = .ok (.iload_n 0, 1) := by decide +kernel
theorem dJ6_numberOfTrailingZeros_0f7a4_76 : decode cJ6_numberOfTrailingZeros_0f7a4 76 = .ok (.iconst 1, 1) := by decide +kernel
theorem dJ6_numberOfTrailingZeros_0f7a4_77 : decode cJ6_numberOfTrailingZeros_0f7a4 77 = .ok (.iushr, 1) := by decide +kernel
theorem dJ6_numberOfTrailingZeros_0f7a4_78 : decode cJ6_numberOfTrailingZeros_0f7a4 78 = .ok (.iadd, 1) := by decide +kernel
theorem dJ6_numberOfTrailingZeros_0f7a4_79 : decode cJ6_numberOfTrailingZeros_0f7a4 79 = .ok (.ireturn, 1) := by decide +kernel
theorem dJ6_bitCount_0f7a4_0 : decode cJ6_bitCount_0f7a4 0 = .ok (.iload_n 0, 1) := by decide +kernel
theorem dJ6_bitCount_0f7a4_1 : decode cJ6_bitCount_0f7a4 1 = .ok (.iload_n 0, 1) := by decide +kernel
theorem dJ6_bitCount_0f7a4_2 : decode cJ6_bitCount_0f7a4 2 = .ok (.iconst 1, 1) := by decide +kernel
theorem dJ6_bitCount_0f7a4_3 : decode cJ6_bitCount_0f7a4 3 = .ok (.iushr, 1) := by decide +kernel
theorem dJ6_bitCount_0f7a4_4 : decode cJ6_bitCount_0f7a4 4 = .ok (.ldc_w 265, 3) := by decide +kernel
theorem dJ6_bitCount_0f7a4_7 : decode cJ6_bitCount_0f7a4 7 = .ok (.iand, 1) := by decide +kernel
theorem dJ6_bitCount_0f7a4_8 : decode cJ6_bitCount_0f7a4 8 = .ok (.isub, 1) := by decide +kernel
theorem dJ6_bitCount_0f7a4_9 : decode cJ6_bitCount_0f7a4 9 = .ok (.istore_n 0, 1) := by decide +kernel
theorem dJ6_bitCount_0f7a4_10 : decode cJ6_bitCount_0f7a4 10 = .ok (.iload_n 0, 1) := by decide +kernel
theorem dJ6_bitCount_0f7a4_11 : decode cJ6_bitCount_0f7a4 11 = .ok (.ldc_w 266, 3) := by decide +kernel
theorem dJ6_bitCount_0f7a4_14 : decode cJ6_bitCount_0f7a4 14 = .ok (.iand, 1) := by decide +kernel
theorem dJ6_bitCount_0f7a4_15 : decode cJ6_bitCount_0f7a4 15 = .ok (.iload_n 0, 1) := by decide +kernel
theorem dJ6_bitCount_0f7a4_16 : decode cJ6_bitCount_0f7a4 16 = .ok (.iconst 2, 1) := by decide +kernel
theorem dJ6_bitCount_0f7a4_17 : decode cJ6_bitCount_0f7a4 17 = .ok (.iushr, 1) := by decide +kernel
theorem dJ6_bitCount_0f7a4_18 : decode cJ6_bitCount_0f7a4 18 = .ok (.ldc_w 266, 3) := by decide +kernel
theorem dJ6_bitCount_0f7a4_21 : decode cJ6_bitCount_0f7a4 21 = .ok (.iand, 1) := by decide +kernel
theorem dJ6_bitCount_0f7a4_22 : decode cJ6_bitCount_0f7a4 22 = .ok (.iadd, 1) := by decide +kernel
theorem dJ6_bitCount_0f7a4_23 : decode cJ6_bitCount_0f7a4 23 = .ok (.istore_n 0, 1) := by decide +kernel
theorem dJ6_bitCount_0f7a4_24 : decode cJ6_bitCount_0f7a4 24 = .ok (.iload_n 0, 1) := by decide +kernel
theorem dJ6_bitCount_0f7a4_25 : decode cJ6_bitCount_0f7a4 25 = .ok (.iload_n 0, 1) := by decide +kernel
theorem dJ6_bitCount_0f7a4_26 : decode cJ6_bitCount_0f7a4 26 = .ok (.iconst 4, 1) := by decide +kernel
theorem dJ6_bitCount_0f7a4_27 : decode cJ6_bitCount_0f7a4 27 = .ok (.iushr, 1) := by decide +kernel
theorem dJ6_bitCount_0f7a4_28 : decode cJ6_bitCount_0f7a4 28 = .ok (.iadd, 1) := by decide +kernel
theorem dJ6_bitCount_0f7a4_29 : decode cJ6_bitCount_0f7a4 29 = .ok (.ldc_w 267, 3) := by decide +kernel
theorem dJ6_bitCount_0f7a4_32 : decode cJ6_bitCount_0f7a4 32 = .ok (.iand, 1) := by decide +kernel
theorem dJ6_bitCount_0f7a4_33 : decode cJ6_bitCount_0f7a4 33 = .ok (.istore_n 0, 1) := by decide +kernel
theorem dJ6_bitCount_0f7a4_34 : decode cJ6_bitCount_0f7a4 34 = .ok (.iload_n 0, 1) := by decide +kernel
theorem dJ6_bitCount_0f7a4_35 : decode cJ6_bitCount_0f7a4 35 = .ok (.iload_n 0, 1) := by decide +kernel
theorem dJ6_bitCount_0f7a4_36 : decode cJ6_bitCount_0f7a4 36 = .ok (.bipush 8, 2) := by decide +kernel
theorem dJ6_bitCount_0f7a4_38 : decode cJ6_bitCount_0f7a4 38 = .ok (.iushr, 1) := by decide +kernel
theorem dJ6_bitCount_0f7a4_39 : decode cJ6_bitCount_0f7a4 39 = .ok (.iadd, 1) := by decide +kernel
theorem dJ6_bitCount_0f7a4_40 : decode cJ6_bitCount_0f7a4 40 = .ok (.istore_n 0, 1) := by decide +kernel
theorem dJ6_bitCount_0f7a4_41 : decode cJ6_bitCount_0f7a4 41 = .ok (.iload_n 0, 1) := by decide +kernel
theorem dJ6_bitCount_0f7a4_42 : decode cJ6_bitCount_0f7a4 42 = .ok (.iload_n 0, 1) := by decide +kernel
theorem dJ6_bitCount_0f7a4_43 : decode cJ6_bitCount_0f7a4 43 = .ok (.bipush 16, 2) := by decide +kernel
theorem dJ6_bitCount_0f7a4_45 : decode cJ6_bitCount_0f7a4 45 = .ok (.iushr, 1) := by decide +kernel
theorem dJ6_bitCount_0f7a4_46 : decode cJ6_bitCount_0f7a4 46 = .ok (.iadd, 1) := by decide +kernel
theorem dJ6_bitCount_0f7a4_47 : decode cJ6_bitCount_0f7a4 47 = .ok (.istore_n 0, 1) := by decide +kernel
theorem dJ6_bitCount_0f7a4_48 : decode cJ6_bitCount_0f7a4 48 = .ok (.iload_n 0, 1) := by decide +kernel
theorem dJ6_bitCount_0f7a4_49 : decode cJ6_bitCount_0f7a4 49 = .ok (.bipush 63, 2) := by decide +kernel
theorem dJ6_bitCount_0f7a4_51 : decode cJ6_bitCount_0f7a4 51 = .ok (.iand, 1) := by decide +kernel
theorem dJ6_bitCount_0f7a4_52 : decode cJ6_bitCount_0f7a4 52 = .ok (.ireturn, 1) := by decide +kernel
theorem dJ9_floorMod_7cf53_0 : decode cJ9_floorMod_7cf53 0 = .ok (.iload_n 0, 1) := by decide +kernel
theorem dJ9_floorMod_7cf53_1 : decode cJ9_floorMod_7cf53 1 = .ok (.iload_n 1, 1) := by decide +kernel
theorem dJ9_floorMod_7cf53_2 : decode cJ9_floorMod_7cf53 2 = .ok (.irem, 1) := by decide +kernel
theorem dJ9_floorMod_7cf53_3 : decode cJ9_floorMod_7cf53 3 = .ok (.istore_n 2, 1) := by decide +kernel
theorem dJ9_floorMod_7cf53_4 : decode cJ9_floorMod_7cf53 4 = .ok (.iload_n 0, 1) := by decide +kernel
theorem dJ9_floorMod_7cf53_5 : decode cJ9_floorMod_7cf53 5 = .ok (.iload_n 1, 1) := by decide +kernel
theorem dJ9_floorMod_7cf53_6 : decode cJ9_floorMod_7cf53 6 = .ok (.ixor, 1) := by decide +kernel
theorem dJ9_floorMod_7cf53_7 : decode cJ9_floorMod_7cf53 7 = .ok (.ifCond .ge 11, 3) := by decide +kernel
theorem dJ9_floorMod_7cf53_10 : decode cJ9_floorMod_7cf53 10 = .ok (.iload_n 2, 1) := by decide +kernel
theorem dJ9_floorMod_7cf53_11 : decode cJ9_floorMod_7cf53 11 = .ok (.ifCond .eq 7, 3) := by decide +kernel
theorem dJ9_floorMod_7cf53_14 : decode cJ9_floorMod_7cf53 14 = .ok (.iload_n 2, 1) := by decide +kernel
theorem dJ9_floorMod_7cf53_15 : decode cJ9_floorMod_7cf53 15 = .ok (.iload_n 1, 1) := by decide +kernel
theorem dJ9_floorMod_7cf53_16 : decode cJ9_floorMod_7cf53 16 = .ok (.iadd, 1) := by decide +kernel
theorem dJ9_floorMod_7cf53_17 : decode cJ9_floorMod_7cf53 17 = .ok (.ireturn, 1) := by decide +kernel
theorem dJ9_floorMod_7cf53_18 : decode cJ9_floorMod_7cf53 18 = .ok (.iload_n 2, 1) := by decide +kernel
theorem dJ9_floorMod_7cf53_19 : decode cJ9_floorMod_7cf53 19 = .ok (.ireturn, 1) := by decide +kernel
theorem dJ9_max_7cf53_0 : decode cJ9_max_7cf53 0 = .ok (.iload_n 0, 1) := by decide +kernel
theorem dJ9_max_7cf53_1 : decode cJ9_max_7cf53 1 = .ok (.iload_n 1, 1) := by decide +kernel
theorem dJ9_max_7cf53_2 : decode cJ9_max_7cf53 2 = .ok (.if_icmp .lt 7, 3) := by decide +kernel
theorem dJ9_max_7cf53_5 : decode cJ9_max_7cf53 5 = .ok (.iload_n 0, 1) := by decide +kernel
theorem dJ9_max_7cf53_6 : decode cJ9_max_7cf53 6 = .ok (.goto 4, 3) := by decide +kernel
theorem dJ9_max_7cf53_9 : decode cJ9_max_7cf53 9 = .ok (.iload_n 1, 1) := by decide +kernel
theorem dJ9_max_7cf53_10 : decode cJ9_max_7cf53 10 = .ok (.ireturn, 1) := by decide +kernel
theorem dJ9_min_7cf53_0 : decode cJ9_min_7cf53 0 = .ok (.iload_n 0, 1) := by decide +kernel
theorem dJ9_min_7cf53_1 : decode cJ9_min_7cf53 1 = .ok (.iload_n 1, 1) := by decide +kernel
theorem dJ9_min_7cf53_2 : decode cJ9_min_7cf53 2 = .ok (.if_icmp .gt 7, 3) := by decide +kernel
theorem dJ9_min_7cf53_5 : decode cJ9_min_7cf53 5 = .ok (.iload_n 0, 1) := by decide +kernel
theorem dJ9_min_7cf53_6 : decode cJ9_min_7cf53 6 = .ok (.goto 4, 3) := by decide +kernel
theorem dJ9_min_7cf53_9 : decode cJ9_min_7cf53 9 = .ok (.iload_n 1, 1) := by decide +kernel
theorem dJ9_min_7cf53_10 : decode cJ9_min_7cf53 10 = .ok (.ireturn, 1) := by decide +kernel
theorem dJ0_length_8abf5_0 : decode cJ0_length_8abf5 0 = .ok (.aload_n 0, 1) := by decide +kernel
theorem dJ0_length_8abf5_1 : decode cJ0_length_8abf5 1 = .ok (.getfield 9, 3) := by decide +kernel
theorem dJ0_length_8abf5_4 : decode cJ0_length_8abf5 4 = .ok (.arraylength, 1) := by decide +kernel
theorem dJ0_length_8abf5_5 : decode cJ0_length_8abf5 5 = .ok (.aload_n 0, 1) := by decide +kernel
theorem dJ0_length_8abf5_6 : decode cJ0_length_8abf5 6 = .ok (.invokevirtual 335, 3) := by decide +kernel
theorem dJ0_length_8abf5_9 : decode cJ0_length_8abf5 9 = .ok (.ishr, 1) := by decide +kernel
theorem dJ0_length_8abf5_10 : decode cJ0_length_8abf5 10 = .ok (.ireturn, 1) := by decide +kernel
theorem dJ0_charAt_5068e_0 : decode cJ0_charAt_5068e 0 = .ok (.aload_n 0, 1) := by decide +kernel
theorem dJ0_charAt_5068e_1 : decode cJ0_charAt_5068e 1 = .ok (.invokevirtual 492, 3) := by decide +kernel
theorem dJ0_charAt_5068e_4 : decode cJ0_charAt_5068e 4 = .ok (.ifCond .eq 12, 3) := by decide +kernel
theorem dJ0_charAt_5068e_7 : decode cJ0_charAt_5068e 7 = .ok (.aload_n 0, 1) := by decide +kernel
theorem dJ0_charAt_5068e_8 : decode cJ0_charAt_5068e 8 = .ok (.getfield 9, 3) := by decide +kernel
theorem dJ0_charAt_5068e_11 : decode cJ0_charAt_5068e 11 = .ok (.iload_n 1, 1) := by decide +kernel
theorem dJ0_charAt_5068e_12 : decode cJ0_charAt_5068e 12 = .ok (.invokestatic 495, 3) := by decide +kernel
theorem dJ0_charAt_5068e_15 : decode cJ0_charAt_5068e 15 = .ok (.ireturn, 1) := by decide +kernel
theorem dJ0_charAt_5068e_16 : decode cJ0_charAt_5068e 16 = .ok (.aload_n 0, 1) := by decide +kernel
theorem dJ0_charAt_5068e_17 : decode cJ0_charAt_5068e 17 = .ok (.getfield 9, 3) := by decide +kernel
theorem dJ0_charAt_5068e_20 : decode cJ0_charAt_5068e 20 = .ok (.iload_n 1, 1) := by decide +kernel
theorem dJ0_charAt_5068e_21 : decode cJ0_charAt_5068e 21 = .ok (.invokestatic 498, 3) := by decide +kernel
theorem dJ0_charAt_5068e_24 : decode cJ0_charAt_5068e 24 = .ok (.ireturn, 1) := by decide +kernel
theorem dJ0_indexOf_0f7a4_0 : decode cJ0_indexOf_0f7a4 0 = .ok (.aload_n 0, 1) := by decide +kernel
theorem dJ0_indexOf_0f7a4_1 : decode cJ0_indexOf_0f7a4 1 = .ok (.iload_n 1, 1) := by decide +kernel
theorem dJ0_indexOf_0f7a4_2 : decode cJ0_indexOf_0f7a4 2 = .ok (.iconst 0, 1) := by decide +kernel
theorem dJ0_indexOf_0f7a4_3 : decode cJ0_indexOf_0f7a4 3 = .ok (.invokevirtual 633, 3) := by decide +kernel
theorem dJ0_indexOf_0f7a4_6 : decode cJ0_indexOf_0f7a4 6 = .ok (.ireturn, 1) := by decide +kernel
theorem dJ0_indexOf_7cf53_0 : decode cJ0_indexOf_7cf53 0 = .ok (.aload_n 0, 1) := by decide +kernel
theorem dJ0_indexOf_7cf53_1 : decode cJ0_indexOf_7cf53 1 = .ok (.invokevirtual 492, 3) := by decide +kernel
theorem dJ0_indexOf_7cf53_4 : decode cJ0_indexOf_7cf53 4 = .ok (.ifCond .eq 19, 3) := by decide +kernel
theorem dJ0_indexOf_7cf53_7 : decode cJ0_indexOf_7cf53 7 = .ok (.aload_n 0, 1) := by decide +kernel
theorem dJ0_indexOf_7cf53_8 : decode cJ0_indexOf_7cf53 8 = .ok (.getfield 9, 3) := by decide +kernel
theorem dJ0_indexOf_7cf53_11 : decode cJ0_indexOf_7cf53 11 = .ok (.iload_n 1, 1) := by decide +kernel
theorem dJ0_indexOf_7cf53_12 : decode cJ0_indexOf_7cf53 12 = .ok (.iload_n 2, 1) := by decide +kernel
theorem dJ0_indexOf_7cf53_13 : decode cJ0_indexOf_7cf53 13 = .ok (.aload_n 0, 1) := by decide +kernel
theorem dJ0_indexOf_7cf53_14 : decode cJ0_indexOf_7cf53 14 = .ok (.invokevirtual 505, 3) := by decide +kernel
theorem dJ0_indexOf_7cf53_17 : decode cJ0_indexOf_7cf53 17 = .ok (.invokestatic 637, 3) := by decide +kernel
theorem dJ0_indexOf_7cf53_20 : decode cJ0_indexOf_7cf53 20 = .ok (.goto 16, 3) := by decide +kernel
theorem dJ0_indexOf_7cf53_23 : decode cJ0_indexOf_7cf53 23 = .ok (.aload_n 0, 1) := by decide +kernel
theorem dJ0_indexOf_7cf53_24 : decode cJ0_indexOf_7cf53 24 = .ok (.getfield 9, 3) := by decide +kernel
theorem dJ0_indexOf_7cf53_27 : decode cJ0_indexOf_7cf53 27 = .ok (.iload_n 1, 1) := by decide +kernel
theorem dJ0_indexOf_7cf53_28 : decode cJ0_indexOf_7cf53 28 = .ok (.iload_n 2, 1) := by decide +kernel
theorem dJ0_indexOf_7cf53_29 : decode cJ0_indexOf_7cf53 29 = .ok (.aload_n 0, 1) := by decide +kernel
theorem dJ0_indexOf_7cf53_30 : decode cJ0_indexOf_7cf53 30 = .ok (.invokevirtual 505, 3) := by decide +kernel
theorem dJ0_indexOf_7cf53_33 : decode cJ0_indexOf_7cf53 33 = .ok (.invokestatic 640, 3) := by decide +kernel
theorem dJ0_indexOf_7cf53_36 : decode cJ0_indexOf_7cf53 36 = .ok (.ireturn, 1) := by decide +kernel
theorem dJ0_coder_7d493_0 : decode cJ0_coder_7d493 0 = .ok (.getstatic 38, 3) := by decide +kernel
theorem dJ0_coder_7d493_3 : decode cJ0_coder_7d493 3 = .ok (.ifCond .eq 10, 3) := by decide +kernel
theorem dJ0_coder_7d493_6 : decode cJ0_coder_7d493 6 = .ok (.aload_n 0, 1) := by decide +kernel
theorem dJ0_coder_7d493_7 : decode cJ0_coder_7d493 7 = .ok (.getfield 15, 3) := by decide +kernel
theorem dJ0_coder_7d493_10 : decode cJ0_coder_7d493 10 = .ok (.goto 4, 3) := by decide +kernel
theorem dJ0_coder_7d493_13 : decode cJ0_coder_7d493 13 = .ok (.iconst 1, 1) := by decide +kernel
theorem dJ0_coder_7d493_14 : decode cJ0_coder_7d493 14 = .ok (.ireturn, 1) := by decide +kernel
theorem dJ0_isLatin1_aae02_0 : decode cJ0_isLatin1_aae02 0 = .ok (.getstatic 38, 3) := by decide +kernel
theorem dJ0_isLatin1_aae02_3 : decode cJ0_isLatin1_aae02 3 = .ok (.ifCond .eq 14, 3) := by decide +kernel
theorem dJ0_isLatin1_aae02_6 : decode cJ0_isLatin1_aae02 6 = .ok (.aload_n 0, 1) := by decide +kernel
theorem dJ0_isLatin1_aae02_7 : decode cJ0_isLatin1_aae02 7 = .ok (.getfield 15, 3) := by decide +kernel
theorem dJ0_isLatin1_aae02_10 : decode cJ0_isLatin1_aae02 10 = .ok (.ifCond .ne 7, 3) := by decide +kernel
theorem dJ0_isLatin1_aae02_13 : decode cJ0_isLatin1_aae02 13 = .ok (.iconst 1, 1) := by decide +kernel
theorem dJ0_isLatin1_aae02_14 : decode cJ0_isLatin1_aae02 14 = .ok (.goto 4, 3) := by decide +kernel
theorem dJ0_isLatin1_aae02_17 : decode cJ0_isLatin1_aae02 17 = .ok (.iconst 0, 1) := by decide +kernel
theorem dJ0_isLatin1_aae02_18 : decode cJ0_isLatin1_aae02 18 = .ok (.ireturn, 1) := by decide +kernel
theorem dJ0_checkIndex_df160_0 : decode cJ0_checkIndex_df160 0 = .ok (.iload_n 0, 1) := by decide +kernel
theorem dJ0_checkIndex_df160_1 : decode cJ0_checkIndex_df160 1 = .ok (.iload_n 1, 1) := by decide +kernel
theorem dJ0_checkIndex_df160_2 : decode cJ0_checkIndex_df160 2 = .ok (.getstatic 1053, 3) := by decide +kernel
theorem dJ0_checkIndex_df160_5 : decode cJ0_checkIndex_df160 5 = .ok (.invokestatic 1059, 3) := by decide +kernel
theorem dJ0_checkIndex_df160_8 : decode cJ0_checkIndex_df160 8 = .ok (.pop, 1) := by decide +kernel
theorem dJ0_checkIndex_df160_9 : decode cJ0_checkIndex_df160 9 = .ok (.return_, 1) := by decide +kernel
theorem dJ0_checkBoundsBeginEnd_23922_0 : decode cJ0_checkBoundsBeginEnd_23922 0 = .ok (.iload_n 0, 1) := by decide +kernel
theorem dJ0_checkBoundsBeginEnd_23922_1 : decode cJ0_checkBoundsBeginEnd_23922 1 = .ok (.iload_n 1, 1) := by decide +kernel
theorem dJ0_checkBoundsBeginEnd_23922_2 : decode cJ0_checkBoundsBeginEnd_23922 2 = .ok (.iload_n 2, 1) := by decide +kernel
theorem dJ0_checkBoundsBeginEnd_23922_3 : decode cJ0_checkBoundsBeginEnd_23922 3 = .ok (.getstatic 1053, 3) := by decide +kernel
theorem dJ0_checkBoundsBeginEnd_23922_6 : decode cJ0_checkBoundsBeginEnd_23922 6 = .ok (.invokestatic 1062, 3) := by decide +kernel
theorem dJ0_checkBoundsBeginEnd_23922_9 : decode cJ0_checkBoundsBeginEnd_23922 9 = .ok (.pop, 1) := by decide +kernel
theorem dJ0_checkBoundsBeginEnd_23922_10 : decode cJ0_checkBoundsBeginEnd_23922 10 = .ok (.return_, 1) := by decide +kernel
theorem dJ1_charAt_3b067_0 : decode cJ1_charAt_3b067 0 = .ok (.iload_n 1, 1) := by decide +kernel
theorem dJ1_charAt_3b067_1 : decode cJ1_charAt_3b067 1 = .ok (.aload_n 0, 1) := by decide +kernel
theorem dJ1_charAt_3b067_2 : decode cJ1_charAt_3b067 2 = .ok (.arraylength, 1) := by decide +kernel
theorem dJ1_charAt_3b067_3 : decode cJ1_charAt_3b067 3 = .ok (.invokestatic 9, 3) := by decide +kernel
theorem dJ1_charAt_3b067_6 : decode cJ1_charAt_3b067 6 = .ok (.aload_n 0, 1) := by decide +kernel
theorem dJ1_charAt_3b067_7 : decode cJ1_charAt_3b067 7 = .ok (.iload_n 1, 1) := by decide +kernel
theorem dJ1_charAt_3b067_8 : decode cJ1_charAt_3b067 8 = .ok (.baload, 1) := by decide +kernel
theorem dJ1_charAt_3b067_9 : decode cJ1_charAt_3b067 9 = .ok (.sipush 255, 3) := by decide +kernel
theorem dJ1_charAt_3b067_12 : decode cJ1_charAt_3b067 12 = .ok (.iand, 1) := by decide +kernel
theorem dJ1_charAt_3b067_13 : decode cJ1_charAt_3b067 13 = .ok (.i2c, 1) := by decide +kernel
theorem dJ1_charAt_3b067_14 : decode cJ1_charAt_3b067 14 = .ok (.ireturn, 1) := by decide +kernel
theorem dJ1_canEncode_9a6ad_0 : decode cJ1_canEncode_9a6ad 0 = .ok (.iload_n 0, 1) := by decide +kernel
theorem dJ1_canEncode_9a6ad_1 : decode cJ1_canEncode_9a6ad 1 = .ok (.ifCond .lt 14, 3) := by decide +kernel
theorem dJ1_canEncode_9a6ad_4 : decode cJ1_canEncode_9a6ad 4 = .ok (.iload_n 0, 1) := by decide +kernel
theorem dJ1_canEncode_9a6ad_5 : decode cJ1_canEncode_9a6ad 5 = .ok (.sipush 255, 3) := by decide +kernel
theorem dJ1_canEncode_9a6ad_8 : decode cJ1_canEncode_9a6ad 8 = .ok (.if_icmp .gt 7, 3) := by decide +kernel
theorem dJ1_canEncode_9a6ad_11 : decode cJ1_canEncode_9a6ad 11 = .ok (.iconst 1, 1) := by decide +kernel
theorem dJ1_canEncode_9a6ad_12 : decode cJ1_canEncode_9a6ad 12 = .ok (.goto 4, 3) := by decide +kernel
theorem dJ1_canEncode_9a6ad_15 : decode cJ1_canEncode_9a6ad 15 = .ok (.iconst 0, 1) := by decide +kernel
theorem dJ1_canEncode_9a6ad_16 : decode cJ1_canEncode_9a6ad 16 = .ok (.ireturn, 1) := by decide +kernel
theorem dJ1_indexOf_4cfef_0 : decode cJ1_indexOf_4cfef 0 = .ok (.iload_n 1, 1) := by decide +kernel
theorem dJ1_indexOf_4cfef_1 : decode cJ1_indexOf_4cfef 1 = .ok (.invokestatic 88, 3) := by decide +kernel
theorem dJ1_indexOf_4cfef_4 : decode cJ1_indexOf_4cfef 4 = .ok (.ifCond .ne 5, 3) := by decide +kernel
theorem dJ1_indexOf_4cfef_7 : decode cJ1_indexOf_4cfef 7 = .ok (.iconst (-1), 1) := by decide +kernel
theorem dJ1_indexOf_4cfef_8 : decode cJ1_indexOf_4cfef 8 = .ok (.ireturn, 1) := by decide +kernel
theorem dJ1_indexOf_4cfef_9 : decode cJ1_indexOf_4cfef 9 = .ok (.iload_n 2, 1) := by decide +kernel
theorem dJ1_indexOf_4cfef_10 : decode cJ1_indexOf_4cfef 10 = .ok (.iconst 0, 1) := by decide +kernel
theorem dJ1_indexOf_4cfef_11 : decode cJ1_indexOf_4cfef 11 = .ok (.invokestatic 92, 3) := by decide +kernel
theorem dJ1_indexOf_4cfef_14 : decode cJ1_indexOf_4cfef 14 = .ok (.istore_n 2, 1) := by decide +kernel
theorem dJ1_indexOf_4cfef_15 : decode cJ1_indexOf_4cfef 15 = .ok (.iload_n 3, 1) := by decide +kernel
theorem dJ1_indexOf_4cfef_16 : decode cJ1_indexOf_4cfef 16 = .ok (.aload_n 0, 1) := by decide +kernel
theorem dJ1_indexOf_4cfef_17 : decode cJ1_indexOf_4cfef 17 = .ok (.arraylength, 1) := by decide +kernel
theorem dJ1_indexOf_4cfef_18 : decode cJ1_indexOf_4cfef 18 = .ok (.invokestatic 38, 3) := by decide +kernel
theorem dJ1_indexOf_4cfef_21 : decode cJ1_indexOf_4cfef 21 = .ok (.istore_n 3, 1) := by decide +kernel
theorem dJ1_indexOf_4cfef_22 : decode cJ1_indexOf_4cfef 22 = .ok (.iload_n 2, 1) := by decide +kernel
theorem dJ1_indexOf_4cfef_23 : decode cJ1_indexOf_4cfef 23 = .ok (.iload_n 3, 1) := by decide +kernel
theorem dJ1_indexOf_4cfef_24 : decode cJ1_indexOf_4cfef 24 = .ok (.if_icmp .lt 5, 3) := by decide +kernel
theorem dJ1_indexOf_4cfef_27 : decode cJ1_indexOf_4cfef 27 = .ok (.iconst (-1), 1) := by decide +kernel
theorem dJ1_indexOf_4cfef_28 : decode cJ1_indexOf_4cfef 28 = .ok (.ireturn, 1) := by decide +kernel
theorem dJ1_indexOf_4cfef_29 : decode cJ1_indexOf_4cfef 29 = .ok (.aload_n 0, 1) := by decide +kernel
theorem dJ1_indexOf_4cfef_30 : decode cJ1_indexOf_4cfef 30 = .ok (.iload_n 1, 1) := by decide +kernel
theorem dJ1_indexOf_4cfef_31 : decode cJ1_indexOf_4cfef 31 = .ok (.iload_n 2, 1) := by decide +kernel
theorem dJ1_indexOf_4cfef_32 : decode cJ1_indexOf_4cfef 32 = .ok (.iload_n 3, 1) := by decide +kernel
theorem dJ1_indexOf_4cfef_33 : decode cJ1_indexOf_4cfef 33 = .ok (.invokestatic 95, 3) := by decide +kernel
theorem dJ1_indexOf_4cfef_36 : decode cJ1_indexOf_4cfef 36 = .ok (.ireturn, 1) := by decide +kernel
theorem dJ1_indexOfChar_4cfef_0 : decode cJ1_indexOfChar_4cfef 0 = .ok (.iload_n 1, 1) := by decide +kernel
theorem dJ1_indexOfChar_4cfef_1 : decode cJ1_indexOfChar_4cfef 1 = .ok (.i2b, 1) := by decide +kernel
theorem dJ1_indexOfChar_4cfef_2 : decode cJ1_indexOfChar_4cfef 2 = .ok (.istore 4, 2) := by decide +kernel
theorem dJ1_indexOfChar_4cfef_4 : decode cJ1_indexOfChar_4cfef 4 = .ok (.iload_n 2, 1) := by decide +kernel
theorem dJ1_indexOfChar_4cfef_5 : decode cJ1_indexOfChar_4cfef 5 = .ok (.istore 5, 2) := by decide +kernel
theorem dJ1_indexOfChar_4cfef_7 : decode cJ1_indexOfChar_4cfef 7 = .ok (.iload 5, 2) := by decide +kernel
theorem dJ1_indexOfChar_4cfef_9 : decode cJ1_indexOfChar_4cfef 9 = .ok (.iload_n 3, 1) := by decide +kernel
theorem dJ1_indexOfChar_4cfef_10 : decode cJ1_indexOfChar_4cfef 10 = .ok (.if_icmp .ge 21, 3) := by decide +kernel
theorem dJ1_indexOfChar_4cfef_13 : decode cJ1_indexOfChar_4cfef 13 = .ok (.aload_n 0, 1) := by decide +kernel
theorem dJ1_indexOfChar_4cfef_14 : decode cJ1_indexOfChar_4cfef 14 = .ok (.iload 5, 2) := by decide +kernel
theorem dJ1_indexOfChar_4cfef_16 : decode cJ1_indexOfChar_4cfef 16 = .ok (.baload, 1) := by decide +kernel
theorem dJ1_indexOfChar_4cfef_17 : decode cJ1_indexOfChar_4cfef 17 = .ok (.iload 4, 2) := by decide +kernel
theorem dJ1_indexOfChar_4cfef_19 : decode cJ1_indexOfChar_4cfef 19 = .ok (.if_icmp .ne 6, 3) := by decide +kernel
theorem dJ1_indexOfChar_4cfef_22 : decode cJ1_indexOfChar_4cfef 22 = .ok (.iload 5, 2) := by decide +kernel
theorem dJ1_indexOfChar_4cfef_24 : decode cJ1_indexOfChar_4cfef 24 = .ok (.ireturn, 1) := by decide +kernel
theorem dJ1_indexOfChar_4cfef_25 : decode cJ1_indexOfChar_4cfef 25 = .ok (.iinc 5 1, 3) := by decide +kernel
theorem dJ1_indexOfChar_4cfef_28 : decode cJ1_indexOfChar_4cfef 28 = .ok (.goto (-21), 3) := by decide +kernel
theorem dJ1_indexOfChar_4cfef_31 : decode cJ1_indexOfChar_4cfef 31 = .ok (.iconst (-1), 1) := by decide +kernel
theorem dJ1_indexOfChar_4cfef_32 : decode cJ1_indexOfChar_4cfef 32 = .ok (.ireturn, 1) := by decide +kernel
theorem dJ2_getChar_3b067_0 : decode cJ2_getChar_3b067 0 = .ok (.getstatic 44, 3) := by decide +kernel
theorem dJ2_getChar_3b067_3 : decode cJ2_getChar_3b067 3 = .ok (.ifCond .ne 25, 3) := by decide +kernel
theorem dJ2_getChar_3b067_6 : decode cJ2_getChar_3b067 6 = .ok (.iload_n 1, 1) := by decide +kernel
theorem dJ2_getChar_3b067_7 : decode cJ2_getChar_3b067 7 = .ok (.ifCond .lt 11, 3) := by decide +kernel
theorem dJ2_getChar_3b067_10 : decode cJ2_getChar_3b067 10 = .ok (.iload_n 1, 1) := by decide +kernel
theorem dJ2_getChar_3b067_11 : decode cJ2_getChar_3b067 11 = .ok (.aload_n 0, 1) := by decide +kernel
theorem dJ2_getChar_3b067_12 : decode cJ2_getChar_3b067 12 = .ok (.invokestatic 48, 3) := by decide +kernel
theorem dJ2_getChar_3b067_15 : decode cJ2_getChar_3b067 15 = .ok (.if_icmp .lt 13, 3) := by decide +kernel
theorem dJ2_getChar_3b067_18 : decode cJ2_getChar_3b067 18 = .ok (.new 52, 3) := by decide +kernel
theorem dJ2_getChar_3b067_21 : decode cJ2_getChar_3b067 21 = .ok (.dup, 1) := by decide +kernel
theorem dJ2_getChar_3b067_22 : decode cJ2_getChar_3b067 22 = .ok (.ldc 54, 2) := by decide +kernel
theorem dJ2_getChar_3b067_24 : decode cJ2_getChar_3b067 24 = .ok (.invokespecial 56, 3) := by decide +kernel
theorem dJ2_getChar_3b067_27 : decode cJ2_getChar_3b067 27 = .ok (.athrow, 1) := by decide +kernel
theorem dJ2_getChar_3b067_28 : decode cJ2_getChar_3b067 28 = .ok (.iload_n 1, 1) := by decide +kernel
theorem dJ2_getChar_3b067_29 : decode cJ2_getChar_3b067 29 = .ok (.iconst 1, 1) := by decide +kernel
theorem dJ2_getChar_3b067_30 : decode cJ2_getChar_3b067 30 = .ok (.ishl, 1) := by decide +kernel
theorem dJ2_getChar_3b067_31 : decode cJ2_getChar_3b067 31 = .ok (.istore_n 1, 1) := by decide +kernel
theorem dJ2_getChar_3b067_32 : decode cJ2_getChar_3b067 32 = .ok (.aload_n 0, 1) := by decide +kernel
theorem dJ2_getChar_3b067_33 : decode cJ2_getChar_3b067 33 = .ok (.iload_n 1, 1) := by decide +kernel
theorem dJ2_getChar_3b067_34 : decode cJ2_getChar_3b067 34 = .ok (.iinc 1 1, 3) := by decide +kernel
theorem dJ2_getChar_3b067_37 : decode cJ2_getChar_3b067 37 = .ok (.baload, 1) := by decide +kernel
theorem dJ2_getChar_3b067_38 : decode cJ2_getChar_3b067 38 = .ok (.sipush 255, 3) := by decide +kernel
theorem dJ2_getChar_3b067_41 : decode cJ2_getChar_3b067 41 = .ok (.iand, 1) := by decide +kernel
theorem dJ2_getChar_3b067_42 : decode cJ2_getChar_3b067 42 = .ok (.getstatic 59, 3) := by decide +kernel
theorem dJ2_getChar_3b067_45 : decode cJ2_getChar_3b067 45 = .ok (.ishl, 1) := by decide +kernel
theorem dJ2_getChar_3b067_46 : decode cJ2_getChar_3b067 46 = .ok (.aload_n 0, 1) := by decide +kernel
theorem dJ2_getChar_3b067_47 : decode cJ2_getChar_3b067 47 = .ok (.iload_n 1, 1) := by decide +kernel
theorem dJ2_getChar_3b067_48 : decode cJ2_getChar_3b067 48 = .ok (.baload, 1) := by decide +kernel
theorem dJ2_getChar_3b067_49 : decode cJ2_getChar_3b067 49 = .ok (.sipush 255, 3) := by decide +kernel
theorem dJ2_getChar_3b067_52 : decode cJ2_getChar_3b067 52 = .ok (.iand, 1) := by decide +kernel
theorem dJ2_getChar_3b067_53 : decode cJ2_getChar_3b067 53 = .ok (.getstatic 63, 3) := by decide +kernel
theorem dJ2_getChar_3b067_56 : decode cJ2_getChar_3b067 56 = .ok (.ishl, 1) := by decide +kernel
theorem dJ2_getChar_3b067_57 : decode cJ2_getChar_3b067 57 = .ok (.ior, 1) := by decide +kernel
theorem dJ2_getChar_3b067_58 : decode cJ2_getChar_3b067 58 = .ok (.i2c, 1) := by decide +kernel
theorem dJ2_getChar_3b067_59 : decode cJ2_getChar_3b067 59 = .ok (.ireturn, 1) := by decide +kernel
theorem dJ2_length_9d52b_0 : decode cJ2_length_9d52b 0 = .ok (.aload_n 0, 1) := by decide +kernel
theorem dJ2_length_9d52b_1 : decode cJ2_length_9d52b 1 = .ok (.arraylength, 1) := by decide +kernel
theorem dJ2_length_9d52b_2 : decode cJ2_length_9d52b 2 = .ok (.iconst 1, 1) := by decide +kernel
theorem dJ2_length_9d52b_3 : decode cJ2_length_9d52b 3 = .ok (.ishr, 1) := by decide +kernel
theorem dJ2_length_9d52b_4 : decode cJ2_length_9d52b 4 = .ok (.ireturn, 1) := by decide +kernel
theorem dJ2_indexOf_4cfef_0 : decode cJ2_indexOf_4cfef 0 = .ok (.iload_n 2, 1) := by decide +kernel
theorem dJ2_indexOf_4cfef_1 : decode cJ2_indexOf_4cfef 1 = .ok (.iconst 0, 1) := by decide +kernel
theorem dJ2_indexOf_4cfef_2 : decode cJ2_indexOf_4cfef 2 = .ok (.invokestatic 224, 3) := by decide +kernel
theorem dJ2_indexOf_4cfef_5 : decode cJ2_indexOf_4cfef 5 = .ok (.istore_n 2, 1) := by decide +kernel
theorem dJ2_indexOf_4cfef_6 : decode cJ2_indexOf_4cfef 6 = .ok (.iload_n 3, 1) := by decide +kernel
theorem dJ2_indexOf_4cfef_7 : decode cJ2_indexOf_4cfef 7 = .ok (.aload_n 0, 1) := by decide +kernel
theorem dJ2_indexOf_4cfef_8 : decode cJ2_indexOf_4cfef 8 = .ok (.arraylength, 1) := by decide +kernel
theorem dJ2_indexOf_4cfef_9 : decode cJ2_indexOf_4cfef 9 = .ok (.iconst 1, 1) := by decide +kernel
theorem dJ2_indexOf_4cfef_10 : decode cJ2_indexOf_4cfef 10 = .ok (.ishr, 1) := by decide +kernel
theorem dJ2_indexOf_4cfef_11 : decode cJ2_indexOf_4cfef 11 = .ok (.invokestatic 183, 3) := by decide +kernel
theorem dJ2_indexOf_4cfef_14 : decode cJ2_indexOf_4cfef 14 = .ok (.istore_n 3, 1) := by decide +kernel
theorem dJ2_indexOf_4cfef_15 : decode cJ2_indexOf_4cfef 15 = .ok (.iload_n 2, 1) := by decide +kernel
theorem dJ2_indexOf_4cfef_16 : decode cJ2_indexOf_4cfef 16 = .ok (.iload_n 3, 1) := by decide +kernel
theorem dJ2_indexOf_4cfef_17 : decode cJ2_indexOf_4cfef 17 = .ok (.if_icmp .lt 5, 3) := by decide +kernel
theorem dJ2_indexOf_4cfef_20 : decode cJ2_indexOf_4cfef 20 = .ok (.iconst (-1), 1) := by decide +kernel
theorem dJ2_indexOf_4cfef_21 : decode cJ2_indexOf_4cfef 21 = .ok (.ireturn, 1) := by decide +kernel
theorem dJ2_indexOf_4cfef_22 : decode cJ2_indexOf_4cfef 22 = .ok (.iload_n 1, 1) := by decide +kernel
theorem dJ2_indexOf_4cfef_23 : decode cJ2_indexOf_4cfef 23 = .ok (.ldc 227, 2) := by decide +kernel
theorem dJ2_indexOf_4cfef_25 : decode cJ2_indexOf_4cfef 25 = .ok (.if_icmp .ge 11, 3) := by decide +kernel
theorem dJ2_indexOf_4cfef_28 : decode cJ2_indexOf_4cfef 28 = .ok (.aload_n 0, 1) := by decide +kernel
theorem dJ2_indexOf_4cfef_29 : decode cJ2_indexOf_4cfef 29 = .ok (.iload_n 1, 1) := by decide +kernel
theorem dJ2_indexOf_4cfef_30 : decode cJ2_indexOf_4cfef 30 = .ok (.iload_n 2, 1) := by decide +kernel
theorem dJ2_indexOf_4cfef_31 : decode cJ2_indexOf_4cfef 31 = .ok (.iload_n 3, 1) := by decide +kernel
theorem dJ2_indexOf_4cfef_32 : decode cJ2_indexOf_4cfef 32 = .ok (.invokestatic 228, 3) := by decide +kernel
theorem dJ2_indexOf_4cfef_35 : decode cJ2_indexOf_4cfef 35 = .ok (.ireturn, 1) := by decide +kernel
theorem dJ2_indexOf_4cfef_36 : decode cJ2_indexOf_4cfef 36 = .ok (.aload_n 0, 1) := by decide +kernel
theorem dJ2_indexOf_4cfef_37 : decode cJ2_indexOf_4cfef 37 = .ok (.iload_n 1, 1) := by decide +kernel
theorem dJ2_indexOf_4cfef_38 : decode cJ2_indexOf_4cfef 38 = .ok (.iload_n 2, 1) := by decide +kernel
theorem dJ2_indexOf_4cfef_39 : decode cJ2_indexOf_4cfef 39 = .ok (.iload_n 3, 1) := by decide +kernel
theorem dJ2_indexOf_4cfef_40 : decode cJ2_indexOf_4cfef 40 = .ok (.invokestatic 232, 3) := by decide +kernel
theorem dJ2_indexOf_4cfef_43 : decode cJ2_indexOf_4cfef 43 = .ok (.ireturn, 1) := by decide +kernel
theorem dJ2_indexOfChar_4cfef_0 : decode cJ2_indexOfChar_4cfef 0 = .ok (.iload_n 2, 1) := by decide +kernel
theorem dJ2_indexOfChar_4cfef_1 : decode cJ2_indexOfChar_4cfef 1 = .ok (.iload_n 3, 1) := by decide +kernel
theorem dJ2_indexOfChar_4cfef_2 : decode cJ2_indexOfChar_4cfef 2 = .ok (.aload_n 0, 1) := by decide +kernel
theorem dJ2_indexOfChar_4cfef_3 : decode cJ2_indexOfChar_4cfef 3 = .ok (.invokestatic 96, 3) := by decide +kernel
theorem dJ2_indexOfChar_4cfef_6 : decode cJ2_indexOfChar_4cfef 6 = .ok (.aload_n 0, 1) := by decide +kernel
theorem dJ2_indexOfChar_4cfef_7 : decode cJ2_indexOfChar_4cfef 7 = .ok (.iload_n 1, 1) := by decide +kernel
theorem dJ2_indexOfChar_4cfef_8 : decode cJ2_indexOfChar_4cfef 8 = .ok (.iload_n 2, 1) := by decide +kernel
theorem dJ2_indexOfChar_4cfef_9 : decode cJ2_indexOfChar_4cfef 9 = .ok (.iload_n 3, 1) := by decide +kernel
theorem dJ2_indexOfChar_4cfef_10 : decode cJ2_indexOfChar_4cfef 10 = .ok (.invokestatic 244, 3) := by decide +kernel
theorem dJ2_indexOfChar_4cfef_13 : decode cJ2_indexOfChar_4cfef 13 = .ok (.ireturn, 1) := by decide +kernel
theorem dJ2_indexOfCharUnsafe_4cfef_0 : decode cJ2_indexOfCharUnsafe_4cfef 0 = .ok (.iload_n 2, 1) := by decide +kernel
theorem dJ2_indexOfCharUnsafe_4cfef_1 : decode cJ2_indexOfCharUnsafe_4cfef 1 = .ok (.istore 4, 2) := by decide +kernel
theorem dJ2_indexOfCharUnsafe_4cfef_3 : decode cJ2_indexOfCharUnsafe_4cfef 3 = .ok (.iload 4, 2) := by decide +kernel
theorem dJ2_indexOfCharUnsafe_4cfef_5 : decode cJ2_indexOfCharUnsafe_4cfef 5 = .ok (.iload_n 3, 1) := by decide +kernel
theorem dJ2_indexOfCharUnsafe_4cfef_6 : decode cJ2_indexOfCharUnsafe_4cfef 6 = .ok (.if_icmp .ge 22, 3) := by decide +kernel
theorem dJ2_indexOfCharUnsafe_4cfef_9 : decode cJ2_indexOfCharUnsafe_4cfef 9 = .ok (.aload_n 0, 1) := by decide +kernel
theorem dJ2_indexOfCharUnsafe_4cfef_10 : decode cJ2_indexOfCharUnsafe_4cfef 10 = .ok (.iload 4, 2) := by decide +kernel
theorem dJ2_indexOfCharUnsafe_4cfef_12 : decode cJ2_indexOfCharUnsafe_4cfef 12 = .ok (.invokestatic 71, 3) := by decide +kernel
theorem dJ2_indexOfCharUnsafe_4cfef_15 : decode cJ2_indexOfCharUnsafe_4cfef 15 = .ok (.iload_n 1, 1) := by decide +kernel
theorem dJ2_indexOfCharUnsafe_4cfef_16 : decode cJ2_indexOfCharUnsafe_4cfef 16 = .ok (.if_icmp .ne 6, 3) := by decide +kernel
theorem dJ2_indexOfCharUnsafe_4cfef_19 : decode cJ2_indexOfCharUnsafe_4cfef 19 = .ok (.iload 4, 2) := by decide +kernel
theorem dJ2_indexOfCharUnsafe_4cfef_21 : decode cJ2_indexOfCharUnsafe_4cfef 21 = .ok (.ireturn, 1) := by decide +kernel
theorem dJ2_indexOfCharUnsafe_4cfef_22 : decode cJ2_indexOfCharUnsafe_4cfef 22 = .ok (.iinc 4 1, 3) := by decide +kernel
theorem dJ2_indexOfCharUnsafe_4cfef_25 : decode cJ2_indexOfCharUnsafe_4cfef 25 = .ok (.goto (-22), 3) := by decide +kernel
theorem dJ2_indexOfCharUnsafe_4cfef_28 : decode cJ2_indexOfCharUnsafe_4cfef 28 = .ok (.iconst (-1), 1) := by decide +kernel
theorem dJ2_indexOfCharUnsafe_4cfef_29 : decode cJ2_indexOfCharUnsafe_4cfef 29 = .ok (.ireturn, 1) := by decide +kernel
theorem dJ2_indexOfSupplementary_4cfef_0 : decode cJ2_indexOfSupplementary_4cfef 0 = .ok (.iload_n 1, 1) := by decide +kernel
theorem dJ2_indexOfSupplementary_4cfef_1 : decode cJ2_indexOfSupplementary_4cfef 1 = .ok (.invokestatic 164, 3) := by decide +kernel
theorem dJ2_indexOfSupplementary_4cfef_4 : decode cJ2_indexOfSupplementary_4cfef 4 = .ok (.ifCond .eq 65, 3) := by decide +kernel
theorem dJ2_indexOfSupplementary_4cfef_7 : decode cJ2_indexOfSupplementary_4cfef 7 = .ok (.iload_n 1, 1) := by decide +kernel
theorem dJ2_indexOfSupplementary_4cfef_8 : decode cJ2_indexOfSupplementary_4cfef 8 = .ok (.invokestatic 157, 3) := by decide +kernel
theorem dJ2_indexOfSupplementary_4cfef_11 : decode cJ2_indexOfSupplementary_4cfef 11 = .ok (.istore 4, 2) := by decide +kernel
theorem dJ2_indexOfSupplementary_4cfef_13 : decode cJ2_indexOfSupplementary_4cfef 13 = .ok (.iload_n 1, 1) := by decide +kernel
theorem dJ2_indexOfSupplementary_4cfef_14 : decode cJ2_indexOfSupplementary_4cfef 14 = .ok (.invokestatic 161, 3) := by decide +kernel
theorem dJ2_indexOfSupplementary_4cfef_17 : decode cJ2_indexOfSupplementary_4cfef 17 = .ok (.istore 5, 2) := by decide +kernel
theorem dJ2_indexOfSupplementary_4cfef_19 : decode cJ2_indexOfSupplementary_4cfef 19 = .ok (.iload_n 2, 1) := by decide +kernel
theorem dJ2_indexOfSupplementary_4cfef_20 : decode cJ2_indexOfSupplementary_4cfef 20 = .ok (.iload_n 3, 1) := by decide +kernel
theorem dJ2_indexOfSupplementary_4cfef_21 : decode cJ2_indexOfSupplementary_4cfef 21 = .ok (.aload_n 0, 1) := by decide +kernel
theorem dJ2_indexOfSupplementary_4cfef_22 : decode cJ2_indexOfSupplementary_4cfef 22 = .ok (.invokestatic 96, 3) := by decide +kernel
theorem dJ2_indexOfSupplementary_4cfef_25 : decode cJ2_indexOfSupplementary_4cfef 25 = .ok (.iload_n 2, 1) := by decide +kernel
theorem dJ2_indexOfSupplementary_4cfef_26 : decode cJ2_indexOfSupplementary_4cfef 26 = .ok (.istore 6, 2) := by decide +kernel
theorem dJ2_indexOfSupplementary_4cfef_28 : decode cJ2_indexOfSupplementary_4cfef 28 = .ok (.iload 6, 2) := by decide +kernel
theorem dJ2_indexOfSupplementary_4cfef_30 : decode cJ2_indexOfSupplementary_4cfef 30 = .ok (.iload_n 3, 1) := by decide +kernel
theorem dJ2_indexOfSupplementary_4cfef_31 : decode cJ2_indexOfSupplementary_4cfef 31 = .ok (.iconst 1, 1) := by decide +kernel
theorem dJ2_indexOfSupplementary_4cfef_32 : decode cJ2_indexOfSupplementary_4cfef 32 = .ok (.isub, 1) := by decide +kernel
theorem dJ2_indexOfSupplementary_4cfef_33 : decode cJ2_indexOfSupplementary_4cfef 33 = .ok (.if_icmp .ge 36, 3) := by decide +kernel
theorem dJ2_indexOfSupplementary_4cfef_36 : decode cJ2_indexOfSupplementary_4cfef 36 = .ok (.aload_n 0, 1) := by decide +kernel
theorem dJ2_indexOfSupplementary_4cfef_37 : decode cJ2_indexOfSupplementary_4cfef 37 = .ok (.iload 6, 2) := by decide +kernel
theorem dJ2_indexOfSupplementary_4cfef_39 : decode cJ2_indexOfSupplementary_4cfef 39 = .ok (.invokestatic 71, 3) := by decide +kernel
theorem dJ2_indexOfSupplementary_4cfef_42 : decode cJ2_indexOfSupplementary_4cfef 42 = .ok (.iload 4, 2) := by decide +kernel
theorem dJ2_indexOfSupplementary_4cfef_44 : decode cJ2_indexOfSupplementary_4cfef 44 = .ok (.if_icmp .ne 19, 3) := by decide +kernel
theorem dJ2_indexOfSupplementary_4cfef_47 : decode cJ2_indexOfSupplementary_4cfef 47 = .ok (.aload_n 0, 1) := by decide +kernel
theorem dJ2_indexOfSupplementary_4cfef_48 : decode cJ2_indexOfSupplementary_4cfef 48 = .ok (.iload 6, 2) := by decide +kernel
theorem dJ2_indexOfSupplementary_4cfef_50 : decode cJ2_indexOfSupplementary_4cfef 50 = .ok (.iconst 1, 1) := by decide +kernel
theorem dJ2_indexOfSupplementary_4cfef_51 : decode cJ2_indexOfSupplementary_4cfef 51 = .ok (.iadd, 1) := by decide +kernel
theorem dJ2_indexOfSupplementary_4cfef_52 : decode cJ2_indexOfSupplementary_4cfef 52 = .ok (.invokestatic 71, 3) := by decide +kernel
theorem dJ2_indexOfSupplementary_4cfef_55 : decode cJ2_indexOfSupplementary_4cfef 55 = .ok (.iload 5, 2) := by decide +kernel
theorem dJ2_indexOfSupplementary_4cfef_57 : decode cJ2_indexOfSupplementary_4cfef 57 = .ok (.if_icmp .ne 6, 3) := by decide +kernel
theorem dJ2_indexOfSupplementary_4cfef_60 : decode cJ2_indexOfSupplementary_4cfef 60 = .ok (.iload 6, 2) := by decide +kernel
theorem dJ2_indexOfSupplementary_4cfef_62 : decode cJ2_indexOfSupplementary_4cfef 62 = .ok (.ireturn, 1) := by decide +kernel
theorem dJ2_indexOfSupplementary_4cfef_63 : decode cJ2_indexOfSupplementary_4cfef 63 = .ok (.iinc 6 1, 3) := by decide +kernel
theorem dJ2_indexOfSupplementary_4cfef_66 : decode cJ2_indexOfSupplementary_4cfef 66 = .ok (.goto (-38), 3) := by decide +kernel
theorem dJ2_indexOfSupplementary_4cfef_69 : decode cJ2_indexOfSupplementary_4cfef 69 = .ok (.iconst (-1), 1) := by decide +kernel
theorem dJ2_indexOfSupplementary_4cfef_70 : decode cJ2_indexOfSupplementary_4cfef 70 = .ok (.ireturn, 1) := by decide +kernel
theorem dJ2_charAt_3b067_0 : decode cJ2_charAt_3b067 0 = .ok (.iload_n 1, 1) := by decide +kernel
theorem dJ2_charAt_3b067_1 : decode cJ2_charAt_3b067 1 = .ok (.aload_n 0, 1) := by decide +kernel
theorem dJ2_charAt_3b067_2 : decode cJ2_charAt_3b067 2 = .ok (.invokestatic 67, 3) := by decide +kernel
theorem dJ2_charAt_3b067_5 : decode cJ2_charAt_3b067 5 = .ok (.aload_n 0, 1) := by decide +kernel
theorem dJ2_charAt_3b067_6 : decode cJ2_charAt_3b067 6 = .ok (.iload_n 1, 1) := by decide +kernel
theorem dJ2_charAt_3b067_7 : decode cJ2_charAt_3b067 7 = .ok (.invokestatic 71, 3) := by decide +kernel
theorem dJ2_charAt_3b067_10 : decode cJ2_charAt_3b067 10 = .ok (.ireturn, 1) := by decide +kernel
theorem dJ2_checkIndex_2214a_0 : decode cJ2_checkIndex_2214a 0 = .ok (.iload_n 0, 1) := by decide +kernel
theorem dJ2_checkIndex_2214a_1 : decode cJ2_checkIndex_2214a 1 = .ok (.aload_n 1, 1) := by decide +kernel
theorem dJ2_checkIndex_2214a_2 : decode cJ2_checkIndex_2214a 2 = .ok (.invokestatic 48, 3) := by decide +kernel
theorem dJ2_checkIndex_2214a_5 : decode cJ2_checkIndex_2214a 5 = .ok (.invokestatic 414, 3) := by decide +kernel
theorem dJ2_checkIndex_2214a_8 : decode cJ2_checkIndex_2214a 8 = .ok (.return_, 1) := by decide +kernel
theorem dJ2_checkBoundsBeginEnd_d044e_0 : decode cJ2_checkBoundsBeginEnd_d044e 0 = .ok (.iload_n 0, 1) := by decide +kernel
theorem dJ2_checkBoundsBeginEnd_d044e_1 : decode cJ2_checkBoundsBeginEnd_d044e 1 = .ok (.iload_n 1, 1) := by decide +kernel
theorem dJ2_checkBoundsBeginEnd_d044e_2 : decode cJ2_checkBoundsBeginEnd_d044e 2 = .ok (.aload_n 2, 1) := by decide +kernel
theorem dJ2_checkBoundsBeginEnd_d044e_3 : decode cJ2_checkBoundsBeginEnd_d044e 3 = .ok (.invokestatic 48, 3) := by decide +kernel
theorem dJ2_checkBoundsBeginEnd_d044e_6 : decode cJ2_checkBoundsBeginEnd_d044e 6 = .ok (.invokestatic 241, 3) := by decide +kernel
theorem dJ2_checkBoundsBeginEnd_d044e_9 : decode cJ2_checkBoundsBeginEnd_d044e 9 = .ok (.return_, 1) := by decide +kernel
theorem dJ3_checkIndex_8e157_0 : decode cJ3_checkIndex_8e157 0 = .ok (.iload_n 0, 1) := by decide +kernel
theorem dJ3_checkIndex_8e157_1 : decode cJ3_checkIndex_8e157 1 = .ok (.ifCond .lt 8, 3) := by decide +kernel
theorem dJ3_checkIndex_8e157_4 : decode cJ3_checkIndex_8e157 4 = .ok (.iload_n 0, 1) := by decide +kernel
theorem dJ3_checkIndex_8e157_5 : decode cJ3_checkIndex_8e157 5 = .ok (.iload_n 1, 1) := by decide +kernel
theorem dJ3_checkIndex_8e157_6 : decode cJ3_checkIndex_8e157 6 = .ok (.if_icmp .lt 10, 3) := by decide +kernel
theorem dJ3_checkIndex_8e157_9 : decode cJ3_checkIndex_8e157 9 = .ok (.aload_n 2, 1) := by decide +kernel
theorem dJ3_checkIndex_8e157_10 : decode cJ3_checkIndex_8e157 10 = .ok (.iload_n 0, 1) := by decide +kernel
theorem dJ3_checkIndex_8e157_11 : decode cJ3_checkIndex_8e157 11 = .ok (.iload_n 1, 1) := by decide +kernel
theorem dJ3_checkIndex_8e157_12 : decode cJ3_checkIndex_8e157 12 = .ok (.invokestatic 95, 3) := by decide +kernel
theorem dJ3_checkIndex_8e157_15 : decode cJ3_checkIndex_8e157 15 = .ok (.athrow, 1) := by decide +kernel
theorem dJ3_checkIndex_8e157_16 : decode cJ3_checkIndex_8e157 16 = .ok (.iload_n 0, 1) := by decide +kernel
theorem dJ3_checkIndex_8e157_17 : decode cJ3_checkIndex_8e157 17 = .ok (.ireturn, 1) := by decide +kernel
theorem dJ3_checkFromToIndex_8c36e_0 : decode cJ3_checkFromToIndex_8c36e 0 = .ok (.iload_n 0, 1) := by decide +kernel
theorem dJ3_checkFromToIndex_8c36e_1 : decode cJ3_checkFromToIndex_8c36e 1 = .ok (.ifCond .lt 13, 3) := by decide +kernel
theorem dJ3_checkFromToIndex_8c36e_4 : decode cJ3_checkFromToIndex_8c36e 4 = .ok (.iload_n 0, 1) := by decide +kernel
theorem dJ3_checkFromToIndex_8c36e_5 : decode cJ3_checkFromToIndex_8c36e 5 = .ok (.iload_n 1, 1) := by decide +kernel
theorem dJ3_checkFromToIndex_8c36e_6 : decode cJ3_checkFromToIndex_8c36e 6 = .ok (.if_icmp .gt 8, 3) := by decide +kernel
theorem dJ3_checkFromToIndex_8c36e_9 : decode cJ3_checkFromToIndex_8c36e 9 = .ok (.iload_n 1, 1) := by decide +kernel
theorem dJ3_checkFromToIndex_8c36e_10 : decode cJ3_checkFromToIndex_8c36e 10 = .ok (.iload_n 2, 1) := by decide +kernel
theorem dJ3_checkFromToIndex_8c36e_11 : decode cJ3_checkFromToIndex_8c36e 11 = .ok (.if_icmp .le 11, 3) := by decide +kernel
theorem dJ3_checkFromToIndex_8c36e_14 : decode cJ3_checkFromToIndex_8c36e 14 = .ok (.aload_n 3, 1) := by decide +kernel
theorem dJ3_checkFromToIndex_8c36e_15 : decode cJ3_checkFromToIndex_8c36e 15 = .ok (.iload_n 0, 1) := by decide +kernel
theorem dJ3_checkFromToIndex_8c36e_16 : decode cJ3_checkFromToIndex_8c36e 16 = .ok (.iload_n 1, 1) := by decide +kernel
theorem dJ3_checkFromToIndex_8c36e_17 : decode cJ3_checkFromToIndex_8c36e 17 = .ok (.iload_n 2, 1) := by decide +kernel
theorem dJ3_checkFromToIndex_8c36e_18 : decode cJ3_checkFromToIndex_8c36e 18 = .ok (.invokestatic 99, 3) := by decide +kernel
theorem dJ3_checkFromToIndex_8c36e_21 : decode cJ3_checkFromToIndex_8c36e 21 = .ok (.athrow, 1) := by decide +kernel
theorem dJ3_checkFromToIndex_8c36e_22 : decode cJ3_checkFromToIndex_8c36e 22 = .ok (.iload_n 0, 1) := by decide +kernel
theorem dJ3_checkFromToIndex_8c36e_23 : decode cJ3_checkFromToIndex_8c36e 23 = .ok (.ireturn, 1) := by decide +kernel
theorem dL_law_0 : decode cL_law 0 = .ok (.new 7, 3) := by decide +kernel
theorem dL_law_3 : decode cL_law 3 = .ok (.dup, 1) := by decide +kernel
theorem dL_law_4 : decode cL_law 4 = .ok (.invokespecial 9, 3) := by decide +kernel
theorem dL_law_7 : decode cL_law 7 = .ok (.astore_n 1, 1) := by decide +kernel
theorem dL_law_8 : decode cL_law 8 = .ok (.new 10, 3) := by decide +kernel
theorem dL_law_11 : decode cL_law 11 = .ok (.dup, 1) := by decide +kernel
theorem dL_law_12 : decode cL_law 12 = .ok (.invokespecial 12, 3) := by decide +kernel
theorem dL_law_15 : decode cL_law 15 = .ok (.astore_n 2, 1) := by decide +kernel
theorem dL_law_16 : decode cL_law 16 = .ok (.iconst 0, 1) := by decide +kernel
theorem dL_law_17 : decode cL_law 17 = .ok (.istore_n 3, 1) := by decide +kernel
theorem dL_law_18 : decode cL_law 18 = .ok (.iload_n 3, 1) := by decide +kernel
theorem dL_law_19 : decode cL_law 19 = .ok (.aload_n 0, 1) := by decide +kernel
theorem dL_law_20 : decode cL_law 20 = .ok (.arraylength, 1) := by decide +kernel
theorem dL_law_21 : decode cL_law 21 = .ok (.bipush 6, 2) := by decide +kernel
theorem dL_law_23 : decode cL_law 23 = .ok (.isub, 1) := by decide +kernel
theorem dL_law_24 : decode cL_law 24 = .ok (.if_icmp .gt 1350, 3) := by decide +kernel
theorem dL_law_27 : decode cL_law 27 = .ok (.aload_n 0, 1) := by decide +kernel
theorem dL_law_28 : decode cL_law 28 = .ok (.iload_n 3, 1) := by decide +kernel
theorem dL_law_29 : decode cL_law 29 = .ok (.iaload, 1) := by decide +kernel
theorem dL_law_30 : decode cL_law 30 = .ok (.bipush 63, 2) := by decide +kernel
theorem dL_law_32 : decode cL_law 32 = .ok (.iand, 1) := by decide +kernel
theorem dL_law_33 : decode cL_law 33 = .ok (.tableswitch 1335 0 36 #[163, 186, 229, 262, 295, 344, 393, 436, 459, 482, 495, 518, 541, 574, 587, 600, 623, 646, 705, 738, 771, 805, 839, 872, 895, 928, 941, 974, 987, 1000, 1043, 1066, 1099, 1122, 1165, 1238, 1272], 163) := by decide +kernel
theorem dL_law_196 : decode cL_law 196 = .ok (.aload_n 1, 1) := by decide +kernel
theorem dL_law_197 : decode cL_law 197 = .ok (.aload_n 0, 1) := by decide +kernel
theorem dL_law_198 : decode cL_law 198 = .ok (.iload_n 3, 1) := by decide +kernel
theorem dL_law_199 : decode cL_law 199 = .ok (.iconst 1, 1) := by decide +kernel
theorem dL_law_200 : decode cL_law 200 = .ok (.iadd, 1) := by decide +kernel
theorem dL_law_201 : decode cL_law 201 = .ok (.iaload, 1) := by decide +kernel
theorem dL_law_202 : decode cL_law 202 = .ok (.invokevirtual 13, 3) := by decide +kernel
theorem dL_law_205 : decode cL_law 205 = .ok (.aload_n 2, 1) := by decide +kernel
theorem dL_law_206 : decode cL_law 206 = .ok (.aload_n 0, 1) := by decide +kernel
theorem dL_law_207 : decode cL_law 207 = .ok (.iload_n 3, 1) := by decide +kernel
theorem dL_law_208 : decode cL_law 208 = .ok (.iconst 1, 1) := by decide +kernel
theorem dL_law_209 : decode cL_law 209 = .ok (.iadd, 1) := by decide +kernel
theorem dL_law_210 : decode cL_law 210 = .ok (.iaload, 1) := by decide +kernel
theorem dL_law_211 : decode cL_law 211 = .ok (.invokevirtual 17, 3) := by decide +kernel
theorem dL_law_214 : decode cL_law 214 = .ok (.if_icmp .eq 1154, 3) := by decide +kernel
theorem dL_law_217 : decode cL_law 217 = .ok (.iconst 0, 1) := by decide +kernel
theorem dL_law_218 : decode cL_law 218 = .ok (.ireturn, 1) := by decide +kernel
theorem dL_law_219 : decode cL_law 219 = .ok (.aload_n 1, 1) := by decide +kernel
theorem dL_law_220 : decode cL_law 220 = .ok (.aload_n 0, 1) := by decide +kernel
theorem dL_law_221 : decode cL_law 221 = .ok (.iload_n 3, 1) := by decide +kernel
theorem dL_law_222 : decode cL_law 222 = .ok (.iconst 1, 1) := by decide +kernel
theorem dL_law_223 : decode cL_law 223 = .ok (.iadd, 1) := by decide +kernel
theorem dL_law_224 : decode cL_law 224 = .ok (.iaload, 1) := by decide +kernel
theorem dL_law_225 : decode cL_law 225 = .ok (.aload_n 0, 1) := by decide +kernel
theorem dL_law_226 : decode cL_law 226 = .ok (.iload_n 3, 1) := by decide +kernel
theorem dL_law_227 : decode cL_law 227 = .ok (.iconst 2, 1) := by decide +kernel
theorem dL_law_228 : decode cL_law 228 = .ok (.iadd, 1) := by decide +kernel
theorem dL_law_229 : decode cL_law 229 = .ok (.iaload, 1) := by decide +kernel
theorem dL_law_230 : decode cL_law 230 = .ok (.aload_n 0, 1) := by decide +kernel
theorem dL_law_231 : decode cL_law 231 = .ok (.iload_n 3, 1) := by decide +kernel
theorem dL_law_232 : decode cL_law 232 = .ok (.iconst 3, 1) := by decide +kernel
theorem dL_law_233 : decode cL_law 233 = .ok (.iadd, 1) := by decide +kernel
theorem dL_law_234 : decode cL_law 234 = .ok (.iaload, 1) := by decide +kernel
theorem dL_law_235 : decode cL_law 235 = .ok (.invokevirtual 18, 3) := by decide +kernel
theorem dL_law_238 : decode cL_law 238 = .ok (.aload_n 2, 1) := by decide +kernel
theorem dL_law_239 : decode cL_law 239 = .ok (.aload_n 0, 1) := by decide +kernel
theorem dL_law_240 : decode cL_law 240 = .ok (.iload_n 3, 1) := by decide +kernel
theorem dL_law_241 : decode cL_law 241 = .ok (.iconst 1, 1) := by decide +kernel
theorem dL_law_242 : decode cL_law 242 = .ok (.iadd, 1) := by decide +kernel
theorem dL_law_243 : decode cL_law 243 = .ok (.iaload, 1) := by decide +kernel
theorem dL_law_244 : decode cL_law 244 = .ok (.aload_n 0, 1) := by decide +kernel
theorem dL_law_245 : decode cL_law 245 = .ok (.iload_n 3, 1) := by decide +kernel
theorem dL_law_246 : decode cL_law 246 = .ok (.iconst 2, 1) := by decide +kernel
theorem dL_law_247 : decode cL_law 247 = .ok (.iadd, 1) := by decide +kernel
theorem dL_law_248 : decode cL_law 248 = .ok (.iaload, 1) := by decide +kernel
theorem dL_law_249 : decode cL_law 249 = .ok (.aload_n 0, 1) := by decide +kernel
theorem dL_law_250 : decode cL_law 250 = .ok (.iload_n 3, 1) := by decide +kernel
theorem dL_law_251 : decode cL_law 251 = .ok (.iconst 3, 1) := by decide +kernel
theorem dL_law_252 : decode cL_law 252 = .ok (.iadd, 1) := by decide +kernel
theorem dL_law_253 : decode cL_law 253 = .ok (.iaload, 1) := by decide +kernel
theorem dL_law_254 : decode cL_law 254 = .ok (.invokevirtual 22, 3) := by decide +kernel
theorem dL_law_257 : decode cL_law 257 = .ok (.if_icmp .eq 1111, 3) := by decide +kernel
theorem dL_law_260 : decode cL_law 260 = .ok (.iconst 0, 1) := by decide +kernel
theorem dL_law_261 : decode cL_law 261 = .ok (.ireturn, 1) := by decide +kernel
theorem dL_law_262 : decode cL_law 262 = .ok (.aload_n 1, 1) := by decide +kernel
theorem dL_law_263 : decode cL_law 263 = .ok (.aload_n 0, 1) := by decide +kernel
theorem dL_law_264 : decode cL_law 264 = .ok (.iload_n 3, 1) := by decide +kernel
theorem dL_law_265 : decode cL_law 265 = .ok (.iconst 1, 1) := by decide +kernel
theorem dL_law_266 : decode cL_law 266 = .ok (.iadd, 1) := by decide +kernel
theorem dL_law_267 : decode cL_law 267 = .ok (.iaload, 1) := by decide +kernel
theorem dL_law_268 : decode cL_law 268 = .ok (.aload_n 0, 1) := by decide +kernel
theorem dL_law_269 : decode cL_law 269 = .ok (.iload_n 3, 1) := by decide +kernel
theorem dL_law_270 : decode cL_law 270 = .ok (.iconst 2, 1) := by decide +kernel
theorem dL_law_271 : decode cL_law 271 = .ok (.iadd, 1) := by decide +kernel
theorem dL_law_272 : decode cL_law 272 = .ok (.iaload, 1) := by decide +kernel
theorem dL_law_273 : decode cL_law 273 = .ok (.invokevirtual 23, 3) := by decide +kernel
theorem dL_law_276 : decode cL_law 276 = .ok (.aload_n 2, 1) := by decide +kernel
theorem dL_law_277 : decode cL_law 277 = .ok (.aload_n 0, 1) := by decide +kernel
theorem dL_law_278 : decode cL_law 278 = .ok (.iload_n 3, 1) := by decide +kernel
theorem dL_law_279 : decode cL_law 279 = .ok (.iconst 1, 1) := by decide +kernel
theorem dL_law_280 : decode cL_law 280 = .ok (.iadd, 1) := by decide +kernel
theorem dL_law_281 : decode cL_law 281 = .ok (.iaload, 1) := by decide +kernel
theorem dL_law_282 : decode cL_law 282 = .ok (.aload_n 0, 1) := by decide +kernel
theorem dL_law_283 : decode cL_law 283 = .ok (.iload_n 3, 1) := by decide +kernel
theorem dL_law_284 : decode cL_law 284 = .ok (.iconst 2, 1) := by decide +kernel
theorem dL_law_285 : decode cL_law 285 = .ok (.iadd, 1) := by decide +kernel
theorem dL_law_286 : decode cL_law 286 = .ok (.iaload, 1) := by decide +kernel
theorem dL_law_287 : decode cL_law 287 = .ok (.invokevirtual 27, 3) := by decide +kernel
theorem dL_law_290 : decode cL_law 290 = .ok (.if_icmp .eq 1078, 3) := by decide +kernel
theorem dL_law_293 : decode cL_law 293 = .ok (.iconst 0, 1) := by decide +kernel
theorem dL_law_294 : decode cL_law 294 = .ok (.ireturn, 1) := by decide +kernel
theorem dL_law_295 : decode cL_law 295 = .ok (.aload_n 1, 1) := by decide +kernel
theorem dL_law_296 : decode cL_law 296 = .ok (.aload_n 0, 1) := by decide +kernel
theorem dL_law_297 : decode cL_law 297 = .ok (.iload_n 3, 1) := by decide +kernel
theorem dL_law_298 : decode cL_law 298 = .ok (.iconst 1, 1) := by decide +kernel
theorem dL_law_299 : decode cL_law 299 = .ok (.iadd, 1) := by decide +kernel
theorem dL_law_300 : decode cL_law 300 = .ok (.iaload, 1) := by decide +kernel
theorem dL_law_301 : decode cL_law 301 = .ok (.aload_n 0, 1) := by decide +kernel
theorem dL_law_302 : decode cL_law 302 = .ok (.iload_n 3, 1) := by decide +kernel
theorem dL_law_303 : decode cL_law 303 = .ok (.iconst 2, 1) := by decide +kernel
theorem dL_law_304 : decode cL_law 304 = .ok (.iadd, 1) := by decide +kernel
theorem dL_law_305 : decode cL_law 305 = .ok (.iaload, 1) := by decide +kernel
theorem dL_law_306 : decode cL_law 306 = .ok (.invokevirtual 28, 3) := by decide +kernel
theorem dL_law_309 : decode cL_law 309 = .ok (.aload_n 2, 1) := by decide +kernel
theorem dL_law_310 : decode cL_law 310 = .ok (.aload_n 0, 1) := by decide +kernel
theorem dL_law_311 : decode cL_law 311 = .ok (.iload_n 3, 1) := by decide +kernel
theorem dL_law_312 : decode cL_law 312 = .ok (.iconst 1, 1) := by decide +kernel
theorem dL_law_313 : decode cL_law 313 = .ok (.iadd, 1) := by decide +kernel
theorem dL_law_314 : decode cL_law 314 = .ok (.iaload, 1) := by decide +kernel
theorem dL_law_315 : decode cL_law 315 = .ok (.aload_n 0, 1) := by decide +kernel
theorem dL_law_316 : decode cL_law 316 = .ok (.iload_n 3, 1) := by decide +kernel
theorem dL_law_317 : decode cL_law 317 = .ok (.iconst 2, 1) := by decide +kernel
theorem dL_law_318 : decode cL_law 318 = .ok (.iadd, 1) := by decide +kernel
theorem dL_law_319 : decode cL_law 319 = .ok (.iaload, 1) := by decide +kernel
theorem dL_law_320 : decode cL_law 320 = .ok (.invokevirtual 31, 3) := by decide +kernel
theorem dL_law_323 : decode cL_law 323 = .ok (.if_icmp .eq 1045, 3) := by decide +kernel
theorem dL_law_326 : decode cL_law 326 = .ok (.iconst 0, 1) := by decide +kernel
theorem dL_law_327 : decode cL_law 327 = .ok (.ireturn, 1) := by decide +kernel
theorem dL_law_328 : decode cL_law 328 = .ok (.aload_n 1, 1) := by decide +kernel
theorem dL_law_329 : decode cL_law 329 = .ok (.aload_n 0, 1) := by decide +kernel
theorem dL_law_330 : decode cL_law 330 = .ok (.iload_n 3, 1) := by decide +kernel
theorem dL_law_331 : decode cL_law 331 = .ok (.iconst 1, 1) := by decide +kernel
theorem dL_law_332 : decode cL_law 332 = .ok (.iadd, 1) := by decide +kernel
theorem dL_law_333 : decode cL_law 333 = .ok (.iaload, 1) := by decide +kernel
theorem dL_law_334 : decode cL_law 334 = .ok (.aload_n 0, 1) := by decide +kernel
theorem dL_law_335 : decode cL_law 335 = .ok (.iload_n 3, 1) := by decide +kernel
theorem dL_law_336 : decode cL_law 336 = .ok (.iconst 2, 1) := by decide +kernel
theorem dL_law_337 : decode cL_law 337 = .ok (.iadd, 1) := by decide +kernel
theorem dL_law_338 : decode cL_law 338 = .ok (.iaload, 1) := by decide +kernel
theorem dL_law_339 : decode cL_law 339 = .ok (.ifCond .eq 7, 3) := by decide +kernel
theorem dL_law_342 : decode cL_law 342 = .ok (.iconst 1, 1) := by decide +kernel
theorem dL_law_343 : decode cL_law 343 = .ok (.goto 4, 3) := by decide +kernel
theorem dL_law_346 : decode cL_law 346 = .ok (.iconst 0, 1) := by decide +kernel
theorem dL_law_347 : decode cL_law 347 = .ok (.invokevirtual 32, 3) := by decide +kernel
theorem dL_law_350 : decode cL_law 350 = .ok (.aload_n 2, 1) := by decide +kernel
theorem dL_law_351 : decode cL_law 351 = .ok (.aload_n 0, 1) := by decide +kernel
theorem dL_law_352 : decode cL_law 352 = .ok (.iload_n 3, 1) := by decide +kernel
theorem dL_law_353 : decode cL_law 353 = .ok (.iconst 1, 1) := by decide +kernel
theorem dL_law_354 : decode cL_law 354 = .ok (.iadd, 1) := by decide +kernel
theorem dL_law_355 : decode cL_law 355 = .ok (.iaload, 1) := by decide +kernel
theorem dL_law_356 : decode cL_law 356 = .ok (.aload_n 0, 1) := by decide +kernel
theorem dL_law_357 : decode cL_law 357 = .ok (.iload_n 3, 1) := by decide +kernel
theorem dL_law_358 : decode cL_law 358 = .ok (.iconst 2, 1) := by decide +kernel
theorem dL_law_359 : decode cL_law 359 = .ok (.iadd, 1) := by decide +kernel
theorem dL_law_360 : decode cL_law 360 = .ok (.iaload, 1) := by decide +kernel
theorem dL_law_361 : decode cL_law 361 = .ok (.ifCond .eq 7, 3) := by decide +kernel
theorem dL_law_364 : decode cL_law 364 = .ok (.iconst 1, 1) := by decide +kernel
theorem dL_law_365 : decode cL_law 365 = .ok (.goto 4, 3) := by decide +kernel
theorem dL_law_368 : decode cL_law 368 = .ok (.iconst 0, 1) := by decide +kernel
theorem dL_law_369 : decode cL_law 369 = .ok (.invokevirtual 36, 3) := by decide +kernel
theorem dL_law_372 : decode cL_law 372 = .ok (.if_icmp .eq 996, 3) := by decide +kernel
theorem dL_law_375 : decode cL_law 375 = .ok (.iconst 0, 1) := by decide +kernel
theorem dL_law_376 : decode cL_law 376 = .ok (.ireturn, 1) := by decide +kernel
theorem dL_law_377 : decode cL_law 377 = .ok (.aload_n 1, 1) := by decide +kernel
theorem dL_law_378 : decode cL_law 378 = .ok (.aload_n 0, 1) := by decide +kernel
theorem dL_law_379 : decode cL_law 379 = .ok (.iload_n 3, 1) := by decide +kernel
theorem dL_law_380 : decode cL_law 380 = .ok (.iconst 1, 1) := by decide +kernel
theorem dL_law_381 : decode cL_law 381 = .ok (.iadd, 1) := by decide +kernel
theorem dL_law_382 : decode cL_law 382 = .ok (.iaload, 1) := by decide +kernel
theorem dL_law_383 : decode cL_law 383 = .ok (.aload_n 0, 1) := by decide +kernel
theorem dL_law_384 : decode cL_law 384 = .ok (.iload_n 3, 1) := by decide +kernel
theorem dL_law_385 : decode cL_law 385 = .ok (.iconst 2, 1) := by decide +kernel
theorem dL_law_386 : decode cL_law 386 = .ok (.iadd, 1) := by decide +kernel
theorem dL_law_387 : decode cL_law 387 = .ok (.iaload, 1) := by decide +kernel
theorem dL_law_388 : decode cL_law 388 = .ok (.ifCond .eq 7, 3) := by decide +kernel
theorem dL_law_391 : decode cL_law 391 = .ok (.iconst 1, 1) := by decide +kernel
theorem dL_law_392 : decode cL_law 392 = .ok (.goto 4, 3) := by decide +kernel
theorem dL_law_395 : decode cL_law 395 = .ok (.iconst 0, 1) := by decide +kernel
theorem dL_law_396 : decode cL_law 396 = .ok (.invokevirtual 37, 3) := by decide +kernel
theorem dL_law_399 : decode cL_law 399 = .ok (.aload_n 2, 1) := by decide +kernel
theorem dL_law_400 : decode cL_law 400 = .ok (.aload_n 0, 1) := by decide +kernel
theorem dL_law_401 : decode cL_law 401 = .ok (.iload_n 3, 1) := by decide +kernel
theorem dL_law_402 : decode cL_law 402 = .ok (.iconst 1, 1) := by decide +kernel
theorem dL_law_403 : decode cL_law 403 = .ok (.iadd, 1) := by decide +kernel
theorem dL_law_404 : decode cL_law 404 = .ok (.iaload, 1) := by decide +kernel
theorem dL_law_405 : decode cL_law 405 = .ok (.aload_n 0, 1) := by decide +kernel
theorem dL_law_406 : decode cL_law 406 = .ok (.iload_n 3, 1) := by decide +kernel
theorem dL_law_407 : decode cL_law 407 = .ok (.iconst 2, 1) := by decide +kernel
theorem dL_law_408 : decode cL_law 408 = .ok (.iadd, 1) := by decide +kernel
theorem dL_law_409 : decode cL_law 409 = .ok (.iaload, 1) := by decide +kernel
theorem dL_law_410 : decode cL_law 410 = .ok (.ifCond .eq 7, 3) := by decide +kernel
theorem dL_law_413 : decode cL_law 413 = .ok (.iconst 1, 1) := by decide +kernel
theorem dL_law_414 : decode cL_law 414 = .ok (.goto 4, 3) := by decide +kernel
theorem dL_law_417 : decode cL_law 417 = .ok (.iconst 0, 1) := by decide +kernel
theorem dL_law_418 : decode cL_law 418 = .ok (.invokevirtual 40, 3) := by decide +kernel
theorem dL_law_421 : decode cL_law 421 = .ok (.if_icmp .eq 947, 3) := by decide +kernel
theorem dL_law_424 : decode cL_law 424 = .ok (.iconst 0, 1) := by decide +kernel
theorem dL_law_425 : decode cL_law 425 = .ok (.ireturn, 1) := by decide +kernel
theorem dL_law_426 : decode cL_law 426 = .ok (.aload_n 1, 1) := by decide +kernel
theorem dL_law_427 : decode cL_law 427 = .ok (.aload_n 0, 1) := by decide +kernel
theorem dL_law_428 : decode cL_law 428 = .ok (.iload_n 3, 1) := by decide +kernel
theorem dL_law_429 : decode cL_law 429 = .ok (.iconst 1, 1) := by decide +kernel
theorem dL_law_430 : decode cL_law 430 = .ok (.iadd, 1) := by decide +kernel
theorem dL_law_431 : decode cL_law 431 = .ok (.iaload, 1) := by decide +kernel
theorem dL_law_432 : decode cL_law 432 = .ok (.aload_n 0, 1) := by decide +kernel
theorem dL_law_433 : decode cL_law 433 = .ok (.iload_n 3, 1) := by decide +kernel
theorem dL_law_434 : decode cL_law 434 = .ok (.iconst 2, 1) := by decide +kernel
theorem dL_law_435 : decode cL_law 435 = .ok (.iadd, 1) := by decide +kernel
theorem dL_law_436 : decode cL_law 436 = .ok (.iaload, 1) := by decide +kernel
theorem dL_law_437 : decode cL_law 437 = .ok (.aload_n 0, 1) := by decide +kernel
theorem dL_law_438 : decode cL_law 438 = .ok (.iload_n 3, 1) := by decide +kernel
theorem dL_law_439 : decode cL_law 439 = .ok (.iconst 3, 1) := by decide +kernel
theorem dL_law_440 : decode cL_law 440 = .ok (.iadd, 1) := by decide +kernel
theorem dL_law_441 : decode cL_law 441 = .ok (.iaload, 1) := by decide +kernel
theorem dL_law_442 : decode cL_law 442 = .ok (.invokevirtual 41, 3) := by decide +kernel
theorem dL_law_445 : decode cL_law 445 = .ok (.aload_n 2, 1) := by decide +kernel
theorem dL_law_446 : decode cL_law 446 = .ok (.aload_n 0, 1) := by decide +kernel
theorem dL_law_447 : decode cL_law 447 = .ok (.iload_n 3, 1) := by decide +kernel
theorem dL_law_448 : decode cL_law 448 = .ok (.iconst 1, 1) := by decide +kernel
theorem dL_law_449 : decode cL_law 449 = .ok (.iadd, 1) := by decide +kernel
theorem dL_law_450 : decode cL_law 450 = .ok (.iaload, 1) := by decide +kernel
theorem dL_law_451 : decode cL_law 451 = .ok (.aload_n 0, 1) := by decide +kernel
theorem dL_law_452 : decode cL_law 452 = .ok (.iload_n 3, 1) := by decide +kernel
theorem dL_law_453 : decode cL_law 453 = .ok (.iconst 2, 1) := by decide +kernel
theorem dL_law_454 : decode cL_law 454 = .ok (.iadd, 1) := by decide +kernel
theorem dL_law_455 : decode cL_law 455 = .ok (.iaload, 1) := by decide +kernel
theorem dL_law_456 : decode cL_law 456 = .ok (.aload_n 0, 1) := by decide +kernel
theorem dL_law_457 : decode cL_law 457 = .ok (.iload_n 3, 1) := by decide +kernel
theorem dL_law_458 : decode cL_law 458 = .ok (.iconst 3, 1) := by decide +kernel
theorem dL_law_459 : decode cL_law 459 = .ok (.iadd, 1) := by decide +kernel
theorem dL_law_460 : decode cL_law 460 = .ok (.iaload, 1) := by decide +kernel
theorem dL_law_461 : decode cL_law 461 = .ok (.invokevirtual 44, 3) := by decide +kernel
theorem dL_law_464 : decode cL_law 464 = .ok (.if_icmp .eq 904, 3) := by decide +kernel
theorem dL_law_467 : decode cL_law 467 = .ok (.iconst 0, 1) := by decide +kernel
theorem dL_law_468 : decode cL_law 468 = .ok (.ireturn, 1) := by decide +kernel
theorem dL_law_469 : decode cL_law 469 = .ok (.aload_n 1, 1) := by decide +kernel
theorem dL_law_470 : decode cL_law 470 = .ok (.aload_n 0, 1) := by decide +kernel
theorem dL_law_471 : decode cL_law 471 = .ok (.iload_n 3, 1) := by decide +kernel
theorem dL_law_472 : decode cL_law 472 = .ok (.iconst 1, 1) := by decide +kernel
theorem dL_law_473 : decode cL_law 473 = .ok (.iadd, 1) := by decide +kernel
theorem dL_law_474 : decode cL_law 474 = .ok (.iaload, 1) := by decide +kernel
theorem dL_law_475 : decode cL_law 475 = .ok (.invokevirtual 45, 3) := by decide +kernel
theorem dL_law_478 : decode cL_law 478 = .ok (.aload_n 2, 1) := by decide +kernel
theorem dL_law_479 : decode cL_law 479 = .ok (.aload_n 0, 1) := by decide +kernel
theorem dL_law_480 : decode cL_law 480 = .ok (.iload_n 3, 1) := by decide +kernel
theorem dL_law_481 : decode cL_law 481 = .ok (.iconst 1, 1) := by decide +kernel
theorem dL_law_482 : decode cL_law 482 = .ok (.iadd, 1) := by decide +kernel
theorem dL_law_483 : decode cL_law 483 = .ok (.iaload, 1) := by decide +kernel
theorem dL_law_484 : decode cL_law 484 = .ok (.invokevirtual 48, 3) := by decide +kernel
theorem dL_law_487 : decode cL_law 487 = .ok (.if_icmp .eq 881, 3) := by decide +kernel
theorem dL_law_490 : decode cL_law 490 = .ok (.iconst 0, 1) := by decide +kernel
theorem dL_law_491 : decode cL_law 491 = .ok (.ireturn, 1) := by decide +kernel
theorem dL_law_492 : decode cL_law 492 = .ok (.aload_n 1, 1) := by decide +kernel
theorem dL_law_493 : decode cL_law 493 = .ok (.aload_n 0, 1) := by decide +kernel
theorem dL_law_494 : decode cL_law 494 = .ok (.iload_n 3, 1) := by decide +kernel
theorem dL_law_495 : decode cL_law 495 = .ok (.iconst 1, 1) := by decide +kernel
theorem dL_law_496 : decode cL_law 496 = .ok (.iadd, 1) := by decide +kernel
theorem dL_law_497 : decode cL_law 497 = .ok (.iaload, 1) := by decide +kernel
theorem dL_law_498 : decode cL_law 498 = .ok (.invokevirtual 49, 3) := by decide +kernel
theorem dL_law_501 : decode cL_law 501 = .ok (.aload_n 2, 1) := by decide +kernel
theorem dL_law_502 : decode cL_law 502 = .ok (.aload_n 0, 1) := by decide +kernel
theorem dL_law_503 : decode cL_law 503 = .ok (.iload_n 3, 1) := by decide +kernel
theorem dL_law_504 : decode cL_law 504 = .ok (.iconst 1, 1) := by decide +kernel
theorem dL_law_505 : decode cL_law 505 = .ok (.iadd, 1) := by decide +kernel
theorem dL_law_506 : decode cL_law 506 = .ok (.iaload, 1) := by decide +kernel
theorem dL_law_507 : decode cL_law 507 = .ok (.invokevirtual 52, 3) := by decide +kernel
theorem dL_law_510 : decode cL_law 510 = .ok (.if_icmp .eq 858, 3) := by decide +kernel
theorem dL_law_513 : decode cL_law 513 = .ok (.iconst 0, 1) := by decide +kernel
theorem dL_law_514 : decode cL_law 514 = .ok (.ireturn, 1) := by decide +kernel
theorem dL_law_515 : decode cL_law 515 = .ok (.aload_n 1, 1) := by decide +kernel
theorem dL_law_516 : decode cL_law 516 = .ok (.invokevirtual 53, 3) := by decide +kernel
theorem dL_law_519 : decode cL_law 519 = .ok (.aload_n 2, 1) := by decide +kernel
theorem dL_law_520 : decode cL_law 520 = .ok (.invokevirtual 57, 3) := by decide +kernel
theorem dL_law_523 : decode cL_law 523 = .ok (.if_icmp .eq 845, 3) := by decide +kernel
theorem dL_law_526 : decode cL_law 526 = .ok (.iconst 0, 1) := by decide +kernel
theorem dL_law_527 : decode cL_law 527 = .ok (.ireturn, 1) := by decide +kernel
theorem dL_law_528 : decode cL_law 528 = .ok (.aload_n 1, 1) := by decide +kernel
theorem dL_law_529 : decode cL_law 529 = .ok (.aload_n 0, 1) := by decide +kernel
theorem dL_law_530 : decode cL_law 530 = .ok (.iload_n 3, 1) := by decide +kernel
theorem dL_law_531 : decode cL_law 531 = .ok (.iconst 1, 1) := by decide +kernel
theorem dL_law_532 : decode cL_law 532 = .ok (.iadd, 1) := by decide +kernel
theorem dL_law_533 : decode cL_law 533 = .ok (.iaload, 1) := by decide +kernel
theorem dL_law_534 : decode cL_law 534 = .ok (.invokevirtual 58, 3) := by decide +kernel
theorem dL_law_537 : decode cL_law 537 = .ok (.aload_n 2, 1) := by decide +kernel
theorem dL_law_538 : decode cL_law 538 = .ok (.aload_n 0, 1) := by decide +kernel
theorem dL_law_539 : decode cL_law 539 = .ok (.iload_n 3, 1) := by decide +kernel
theorem dL_law_540 : decode cL_law 540 = .ok (.iconst 1, 1) := by decide +kernel
theorem dL_law_541 : decode cL_law 541 = .ok (.iadd, 1) := by decide +kernel
theorem dL_law_542 : decode cL_law 542 = .ok (.iaload, 1) := by decide +kernel
theorem dL_law_543 : decode cL_law 543 = .ok (.invokevirtual 61, 3) := by decide +kernel
theorem dL_law_546 : decode cL_law 546 = .ok (.if_icmp .eq 822, 3) := by decide +kernel
theorem dL_law_549 : decode cL_law 549 = .ok (.iconst 0, 1) := by decide +kernel
theorem dL_law_550 : decode cL_law 550 = .ok (.ireturn, 1) := by decide +kernel
theorem dL_law_551 : decode cL_law 551 = .ok (.aload_n 1, 1) := by decide +kernel
theorem dL_law_552 : decode cL_law 552 = .ok (.aload_n 0, 1) := by decide +kernel
theorem dL_law_553 : decode cL_law 553 = .ok (.iload_n 3, 1) := by decide +kernel
theorem dL_law_554 : decode cL_law 554 = .ok (.iconst 1, 1) := by decide +kernel
theorem dL_law_555 : decode cL_law 555 = .ok (.iadd, 1) := by decide +kernel
theorem dL_law_556 : decode cL_law 556 = .ok (.iaload, 1) := by decide +kernel
theorem dL_law_557 : decode cL_law 557 = .ok (.invokevirtual 62, 3) := by decide +kernel
theorem dL_law_560 : decode cL_law 560 = .ok (.aload_n 2, 1) := by decide +kernel
theorem dL_law_561 : decode cL_law 561 = .ok (.aload_n 0, 1) := by decide +kernel
theorem dL_law_562 : decode cL_law 562 = .ok (.iload_n 3, 1) := by decide +kernel
theorem dL_law_563 : decode cL_law 563 = .ok (.iconst 1, 1) := by decide +kernel
theorem dL_law_564 : decode cL_law 564 = .ok (.iadd, 1) := by decide +kernel
theorem dL_law_565 : decode cL_law 565 = .ok (.iaload, 1) := by decide +kernel
theorem dL_law_566 : decode cL_law 566 = .ok (.invokevirtual 65, 3) := by decide +kernel
theorem dL_law_569 : decode cL_law 569 = .ok (.if_icmp .eq 799, 3) := by decide +kernel
theorem dL_law_572 : decode cL_law 572 = .ok (.iconst 0, 1) := by decide +kernel
theorem dL_law_573 : decode cL_law 573 = .ok (.ireturn, 1) := by decide +kernel
theorem dL_law_574 : decode cL_law 574 = .ok (.aload_n 1, 1) := by decide +kernel
theorem dL_law_575 : decode cL_law 575 = .ok (.aload_n 0, 1) := by decide +kernel
theorem dL_law_576 : decode cL_law 576 = .ok (.iload_n 3, 1) := by decide +kernel
theorem dL_law_577 : decode cL_law 577 = .ok (.iconst 1, 1) := by decide +kernel
theorem dL_law_578 : decode cL_law 578 = .ok (.iadd, 1) := by decide +kernel
theorem dL_law_579 : decode cL_law 579 = .ok (.iaload, 1) := by decide +kernel
theorem dL_law_580 : decode cL_law 580 = .ok (.aload_n 0, 1) := by decide +kernel
theorem dL_law_581 : decode cL_law 581 = .ok (.iload_n 3, 1) := by decide +kernel
theorem dL_law_582 : decode cL_law 582 = .ok (.iconst 2, 1) := by decide +kernel
theorem dL_law_583 : decode cL_law 583 = .ok (.iadd, 1) := by decide +kernel
theorem dL_law_584 : decode cL_law 584 = .ok (.iaload, 1) := by decide +kernel
theorem dL_law_585 : decode cL_law 585 = .ok (.invokevirtual 66, 3) := by decide +kernel
theorem dL_law_588 : decode cL_law 588 = .ok (.aload_n 2, 1) := by decide +kernel
theorem dL_law_589 : decode cL_law 589 = .ok (.aload_n 0, 1) := by decide +kernel
theorem dL_law_590 : decode cL_law 590 = .ok (.iload_n 3, 1) := by decide +kernel
theorem dL_law_591 : decode cL_law 591 = .ok (.iconst 1, 1) := by decide +kernel
theorem dL_law_592 : decode cL_law 592 = .ok (.iadd, 1) := by decide +kernel
theorem dL_law_593 : decode cL_law 593 = .ok (.iaload, 1) := by decide +kernel
theorem dL_law_594 : decode cL_law 594 = .ok (.aload_n 0, 1) := by decide +kernel
theorem dL_law_595 : decode cL_law 595 = .ok (.iload_n 3, 1) := by decide +kernel
theorem dL_law_596 : decode cL_law 596 = .ok (.iconst 2, 1) := by decide +kernel
theorem dL_law_597 : decode cL_law 597 = .ok (.iadd, 1) := by decide +kernel
theorem dL_law_598 : decode cL_law 598 = .ok (.iaload, 1) := by decide +kernel
theorem dL_law_599 : decode cL_law 599 = .ok (.invokevirtual 69, 3) := by decide +kernel
theorem dL_law_602 : decode cL_law 602 = .ok (.if_icmp .eq 766, 3) := by decide +kernel
theorem dL_law_605 : decode cL_law 605 = .ok (.iconst 0, 1) := by decide +kernel
theorem dL_law_606 : decode cL_law 606 = .ok (.ireturn, 1) := by decide +kernel
theorem dL_law_607 : decode cL_law 607 = .ok (.aload_n 1, 1) := by decide +kernel
theorem dL_law_608 : decode cL_law 608 = .ok (.invokevirtual 70, 3) := by decide +kernel
theorem dL_law_611 : decode cL_law 611 = .ok (.aload_n 2, 1) := by decide +kernel
theorem dL_law_612 : decode cL_law 612 = .ok (.invokevirtual 73, 3) := by decide +kernel
theorem dL_law_615 : decode cL_law 615 = .ok (.if_icmp .eq 753, 3) := by decide +kernel
theorem dL_law_618 : decode cL_law 618 = .ok (.iconst 0, 1) := by decide +kernel
theorem dL_law_619 : decode cL_law 619 = .ok (.ireturn, 1) := by decide +kernel
theorem dL_law_620 : decode cL_law 620 = .ok (.aload_n 1, 1) := by decide +kernel
theorem dL_law_621 : decode cL_law 621 = .ok (.invokevirtual 74, 3) := by decide +kernel
theorem dL_law_624 : decode cL_law 624 = .ok (.aload_n 2, 1) := by decide +kernel
theorem dL_law_625 : decode cL_law 625 = .ok (.invokevirtual 77, 3) := by decide +kernel
theorem dL_law_628 : decode cL_law 628 = .ok (.if_icmp .eq 740, 3) := by decide +kernel
theorem dL_law_631 : decode cL_law 631 = .ok (.iconst 0, 1) := by decide +kernel
theorem dL_law_632 : decode cL_law 632 = .ok (.ireturn, 1) := by decide +kernel
theorem dL_law_633 : decode cL_law 633 = .ok (.aload_n 1, 1) := by decide +kernel
theorem dL_law_634 : decode cL_law 634 = .ok (.aload_n 0, 1) := by decide +kernel
theorem dL_law_635 : decode cL_law 635 = .ok (.iload_n 3, 1) := by decide +kernel
theorem dL_law_636 : decode cL_law 636 = .ok (.iconst 1, 1) := by decide +kernel
theorem dL_law_637 : decode cL_law 637 = .ok (.iadd, 1) := by decide +kernel
theorem dL_law_638 : decode cL_law 638 = .ok (.iaload, 1) := by decide +kernel
theorem dL_law_639 : decode cL_law 639 = .ok (.invokevirtual 78, 3) := by decide +kernel
theorem dL_law_642 : decode cL_law 642 = .ok (.aload_n 2, 1) := by decide +kernel
theorem dL_law_643 : decode cL_law 643 = .ok (.aload_n 0, 1) := by decide +kernel
theorem dL_law_644 : decode cL_law 644 = .ok (.iload_n 3, 1) := by decide +kernel
theorem dL_law_645 : decode cL_law 645 = .ok (.iconst 1, 1) := by decide +kernel
theorem dL_law_646 : decode cL_law 646 = .ok (.iadd, 1) := by decide +kernel
theorem dL_law_647 : decode cL_law 647 = .ok (.iaload, 1) := by decide +kernel
theorem dL_law_648 : decode cL_law 648 = .ok (.invokevirtual 81, 3) := by decide +kernel
theorem dL_law_651 : decode cL_law 651 = .ok (.if_icmp .eq 717, 3) := by decide +kernel
theorem dL_law_654 : decode cL_law 654 = .ok (.iconst 0, 1) := by decide +kernel
theorem dL_law_655 : decode cL_law 655 = .ok (.ireturn, 1) := by decide +kernel
theorem dL_law_656 : decode cL_law 656 = .ok (.aload_n 1, 1) := by decide +kernel
theorem dL_law_657 : decode cL_law 657 = .ok (.aload_n 0, 1) := by decide +kernel
theorem dL_law_658 : decode cL_law 658 = .ok (.iload_n 3, 1) := by decide +kernel
theorem dL_law_659 : decode cL_law 659 = .ok (.iconst 1, 1) := by decide +kernel
theorem dL_law_660 : decode cL_law 660 = .ok (.iadd, 1) := by decide +kernel
theorem dL_law_661 : decode cL_law 661 = .ok (.iaload, 1) := by decide +kernel
theorem dL_law_662 : decode cL_law 662 = .ok (.invokevirtual 82, 3) := by decide +kernel
theorem dL_law_665 : decode cL_law 665 = .ok (.aload_n 2, 1) := by decide +kernel
theorem dL_law_666 : decode cL_law 666 = .ok (.aload_n 0, 1) := by decide +kernel
theorem dL_law_667 : decode cL_law 667 = .ok (.iload_n 3, 1) := by decide +kernel
theorem dL_law_668 : decode cL_law 668 = .ok (.iconst 1, 1) := by decide +kernel
theorem dL_law_669 : decode cL_law 669 = .ok (.iadd, 1) := by decide +kernel
theorem dL_law_670 : decode cL_law 670 = .ok (.iaload, 1) := by decide +kernel
theorem dL_law_671 : decode cL_law 671 = .ok (.invokevirtual 85, 3) := by decide +kernel
theorem dL_law_674 : decode cL_law 674 = .ok (.if_icmp .eq 694, 3) := by decide +kernel
theorem dL_law_677 : decode cL_law 677 = .ok (.iconst 0, 1) := by decide +kernel
theorem dL_law_678 : decode cL_law 678 = .ok (.ireturn, 1) := by decide +kernel
theorem dL_law_679 : decode cL_law 679 = .ok (.aload_n 1, 1) := by decide +kernel
theorem dL_law_680 : decode cL_law 680 = .ok (.aload_n 0, 1) := by decide +kernel
theorem dL_law_681 : decode cL_law 681 = .ok (.iload_n 3, 1) := by decide +kernel
theorem dL_law_682 : decode cL_law 682 = .ok (.iconst 1, 1) := by decide +kernel
theorem dL_law_683 : decode cL_law 683 = .ok (.iadd, 1) := by decide +kernel
theorem dL_law_684 : decode cL_law 684 = .ok (.iaload, 1) := by decide +kernel
theorem dL_law_685 : decode cL_law 685 = .ok (.aload_n 0, 1) := by decide +kernel
theorem dL_law_686 : decode cL_law 686 = .ok (.iload_n 3, 1) := by decide +kernel
theorem dL_law_687 : decode cL_law 687 = .ok (.iconst 2, 1) := by decide +kernel
theorem dL_law_688 : decode cL_law 688 = .ok (.iadd, 1) := by decide +kernel
theorem dL_law_689 : decode cL_law 689 = .ok (.iaload, 1) := by decide +kernel
theorem dL_law_690 : decode cL_law 690 = .ok (.ifCond .eq 7, 3) := by decide +kernel
theorem dL_law_693 : decode cL_law 693 = .ok (.iconst 1, 1) := by decide +kernel
theorem dL_law_694 : decode cL_law 694 = .ok (.goto 4, 3) := by decide +kernel
theorem dL_law_697 : decode cL_law 697 = .ok (.iconst 0, 1) := by decide +kernel
theorem dL_law_698 : decode cL_law 698 = .ok (.aload_n 0, 1) := by decide +kernel
theorem dL_law_699 : decode cL_law 699 = .ok (.iload_n 3, 1) := by decide +kernel
theorem dL_law_700 : decode cL_law 700 = .ok (.iconst 3, 1) := by decide +kernel
theorem dL_law_701 : decode cL_law 701 = .ok (.iadd, 1) := by decide +kernel
theorem dL_law_702 : decode cL_law 702 = .ok (.iaload, 1) := by decide +kernel
theorem dL_law_703 : decode cL_law 703 = .ok (.invokevirtual 86, 3) := by decide +kernel
theorem dL_law_706 : decode cL_law 706 = .ok (.aload_n 2, 1) := by decide +kernel
theorem dL_law_707 : decode cL_law 707 = .ok (.aload_n 0, 1) := by decide +kernel
theorem dL_law_708 : decode cL_law 708 = .ok (.iload_n 3, 1) := by decide +kernel
theorem dL_law_709 : decode cL_law 709 = .ok (.iconst 1, 1) := by decide +kernel
theorem dL_law_710 : decode cL_law 710 = .ok (.iadd, 1) := by decide +kernel
theorem dL_law_711 : decode cL_law 711 = .ok (.iaload, 1) := by decide +kernel
theorem dL_law_712 : decode cL_law 712 = .ok (.aload_n 0, 1) := by decide +kernel
theorem dL_law_713 : decode cL_law 713 = .ok (.iload_n 3, 1) := by decide +kernel
theorem dL_law_714 : decode cL_law 714 = .ok (.iconst 2, 1) := by decide +kernel
theorem dL_law_715 : decode cL_law 715 = .ok (.iadd, 1) := by decide +kernel
theorem dL_law_716 : decode cL_law 716 = .ok (.iaload, 1) := by decide +kernel
theorem dL_law_717 : decode cL_law 717 = .ok (.ifCond .eq 7, 3) := by decide +kernel
theorem dL_law_720 : decode cL_law 720 = .ok (.iconst 1, 1) := by decide +kernel
theorem dL_law_721 : decode cL_law 721 = .ok (.goto 4, 3) := by decide +kernel
theorem dL_law_724 : decode cL_law 724 = .ok (.iconst 0, 1) := by decide +kernel
theorem dL_law_725 : decode cL_law 725 = .ok (.aload_n 0, 1) := by decide +kernel
theorem dL_law_726 : decode cL_law 726 = .ok (.iload_n 3, 1) := by decide +kernel
theorem dL_law_727 : decode cL_law 727 = .ok (.iconst 3, 1) := by decide +kernel
theorem dL_law_728 : decode cL_law 728 = .ok (.iadd, 1) := by decide +kernel
theorem dL_law_729 : decode cL_law 729 = .ok (.iaload, 1) := by decide +kernel
theorem dL_law_730 : decode cL_law 730 = .ok (.invokevirtual 90, 3) := by decide +kernel
theorem dL_law_733 : decode cL_law 733 = .ok (.if_icmp .eq 635, 3) := by decide +kernel
theorem dL_law_736 : decode cL_law 736 = .ok (.iconst 0, 1) := by decide +kernel
theorem dL_law_737 : decode cL_law 737 = .ok (.ireturn, 1) := by decide +kernel
theorem dL_law_738 : decode cL_law 738 = .ok (.aload_n 1, 1) := by decide +kernel
theorem dL_law_739 : decode cL_law 739 = .ok (.aload_n 0, 1) := by decide +kernel
theorem dL_law_740 : decode cL_law 740 = .ok (.iload_n 3, 1) := by decide +kernel
theorem dL_law_741 : decode cL_law 741 = .ok (.iconst 1, 1) := by decide +kernel
theorem dL_law_742 : decode cL_law 742 = .ok (.iadd, 1) := by decide +kernel
theorem dL_law_743 : decode cL_law 743 = .ok (.iaload, 1) := by decide +kernel
theorem dL_law_744 : decode cL_law 744 = .ok (.aload_n 0, 1) := by decide +kernel
theorem dL_law_745 : decode cL_law 745 = .ok (.iload_n 3, 1) := by decide +kernel
theorem dL_law_746 : decode cL_law 746 = .ok (.iconst 2, 1) := by decide +kernel
theorem dL_law_747 : decode cL_law 747 = .ok (.iadd, 1) := by decide +kernel
theorem dL_law_748 : decode cL_law 748 = .ok (.iaload, 1) := by decide +kernel
theorem dL_law_749 : decode cL_law 749 = .ok (.invokevirtual 91, 3) := by decide +kernel
theorem dL_law_752 : decode cL_law 752 = .ok (.aload_n 2, 1) := by decide +kernel
theorem dL_law_753 : decode cL_law 753 = .ok (.aload_n 0, 1) := by decide +kernel
theorem dL_law_754 : decode cL_law 754 = .ok (.iload_n 3, 1) := by decide +kernel
theorem dL_law_755 : decode cL_law 755 = .ok (.iconst 1, 1) := by decide +kernel
theorem dL_law_756 : decode cL_law 756 = .ok (.iadd, 1) := by decide +kernel
theorem dL_law_757 : decode cL_law 757 = .ok (.iaload, 1) := by decide +kernel
theorem dL_law_758 : decode cL_law 758 = .ok (.aload_n 0, 1) := by decide +kernel
theorem dL_law_759 : decode cL_law 759 = .ok (.iload_n 3, 1) := by decide +kernel
theorem dL_law_760 : decode cL_law 760 = .ok (.iconst 2, 1) := by decide +kernel
theorem dL_law_761 : decode cL_law 761 = .ok (.iadd, 1) := by decide +kernel
theorem dL_law_762 : decode cL_law 762 = .ok (.iaload, 1) := by decide +kernel
theorem dL_law_763 : decode cL_law 763 = .ok (.invokevirtual 94, 3) := by decide +kernel
theorem dL_law_766 : decode cL_law 766 = .ok (.if_icmp .eq 602, 3) := by decide +kernel
theorem dL_law_769 : decode cL_law 769 = .ok (.iconst 0, 1) := by decide +kernel
theorem dL_law_770 : decode cL_law 770 = .ok (.ireturn, 1) := by decide +kernel
theorem dL_law_771 : decode cL_law 771 = .ok (.aload_n 1, 1) := by decide +kernel
theorem dL_law_772 : decode cL_law 772 = .ok (.aload_n 0, 1) := by decide +kernel
theorem dL_law_773 : decode cL_law 773 = .ok (.iload_n 3, 1) := by decide +kernel
theorem dL_law_774 : decode cL_law 774 = .ok (.iconst 1, 1) := by decide +kernel
theorem dL_law_775 : decode cL_law 775 = .ok (.iadd, 1) := by decide +kernel
theorem dL_law_776 : decode cL_law 776 = .ok (.iaload, 1) := by decide +kernel
theorem dL_law_777 : decode cL_law 777 = .ok (.aload_n 0, 1) := by decide +kernel
theorem dL_law_778 : decode cL_law 778 = .ok (.iload_n 3, 1) := by decide +kernel
theorem dL_law_779 : decode cL_law 779 = .ok (.iconst 2, 1) := by decide +kernel
theorem dL_law_780 : decode cL_law 780 = .ok (.iadd, 1) := by decide +kernel
theorem dL_law_781 : decode cL_law 781 = .ok (.iaload, 1) := by decide +kernel
theorem dL_law_782 : decode cL_law 782 = .ok (.invokevirtual 95, 3) := by decide +kernel
theorem dL_law_785 : decode cL_law 785 = .ok (.aload_n 2, 1) := by decide +kernel
theorem dL_law_786 : decode cL_law 786 = .ok (.aload_n 0, 1) := by decide +kernel
theorem dL_law_787 : decode cL_law 787 = .ok (.iload_n 3, 1) := by decide +kernel
theorem dL_law_788 : decode cL_law 788 = .ok (.iconst 1, 1) := by decide +kernel
theorem dL_law_789 : decode cL_law 789 = .ok (.iadd, 1) := by decide +kernel
theorem dL_law_790 : decode cL_law 790 = .ok (.iaload, 1) := by decide +kernel
theorem dL_law_791 : decode cL_law 791 = .ok (.aload_n 0, 1) := by decide +kernel
theorem dL_law_792 : decode cL_law 792 = .ok (.iload_n 3, 1) := by decide +kernel
theorem dL_law_793 : decode cL_law 793 = .ok (.iconst 2, 1) := by decide +kernel
theorem dL_law_794 : decode cL_law 794 = .ok (.iadd, 1) := by decide +kernel
theorem dL_law_795 : decode cL_law 795 = .ok (.iaload, 1) := by decide +kernel
theorem dL_law_796 : decode cL_law 796 = .ok (.invokevirtual 98, 3) := by decide +kernel
theorem dL_law_799 : decode cL_law 799 = .ok (.if_icmp .eq 569, 3) := by decide +kernel
theorem dL_law_802 : decode cL_law 802 = .ok (.iconst 0, 1) := by decide +kernel
theorem dL_law_803 : decode cL_law 803 = .ok (.ireturn, 1) := by decide +kernel
theorem dL_law_804 : decode cL_law 804 = .ok (.aload_n 1, 1) := by decide +kernel
theorem dL_law_805 : decode cL_law 805 = .ok (.aload_n 0, 1) := by decide +kernel
theorem dL_law_806 : decode cL_law 806 = .ok (.iload_n 3, 1) := by decide +kernel
theorem dL_law_807 : decode cL_law 807 = .ok (.iconst 1, 1) := by decide +kernel
theorem dL_law_808 : decode cL_law 808 = .ok (.iadd, 1) := by decide +kernel
theorem dL_law_809 : decode cL_law 809 = .ok (.iaload, 1) := by decide +kernel
theorem dL_law_810 : decode cL_law 810 = .ok (.aload_n 0, 1) := by decide +kernel
theorem dL_law_811 : decode cL_law 811 = .ok (.iload_n 3, 1) := by decide +kernel
theorem dL_law_812 : decode cL_law 812 = .ok (.iconst 2, 1) := by decide +kernel
theorem dL_law_813 : decode cL_law 813 = .ok (.iadd, 1) := by decide +kernel
theorem dL_law_814 : decode cL_law 814 = .ok (.iaload, 1) := by decide +kernel
theorem dL_law_815 : decode cL_law 815 = .ok (.invokevirtual 99, 3) := by decide +kernel
theorem dL_law_818 : decode cL_law 818 = .ok (.aload_n 2, 1) := by decide +kernel
theorem dL_law_819 : decode cL_law 819 = .ok (.aload_n 0, 1) := by decide +kernel
theorem dL_law_820 : decode cL_law 820 = .ok (.iload_n 3, 1) := by decide +kernel
theorem dL_law_821 : decode cL_law 821 = .ok (.iconst 1, 1) := by decide +kernel
theorem dL_law_822 : decode cL_law 822 = .ok (.iadd, 1) := by decide +kernel
theorem dL_law_823 : decode cL_law 823 = .ok (.iaload, 1) := by decide +kernel
theorem dL_law_824 : decode cL_law 824 = .ok (.aload_n 0, 1) := by decide +kernel
theorem dL_law_825 : decode cL_law 825 = .ok (.iload_n 3, 1) := by decide +kernel
theorem dL_law_826 : decode cL_law 826 = .ok (.iconst 2, 1) := by decide +kernel
theorem dL_law_827 : decode cL_law 827 = .ok (.iadd, 1) := by decide +kernel
theorem dL_law_828 : decode cL_law 828 = .ok (.iaload, 1) := by decide +kernel
theorem dL_law_829 : decode cL_law 829 = .ok (.invokevirtual 103, 3) := by decide +kernel
theorem dL_law_832 : decode cL_law 832 = .ok (.lcmp, 1) := by decide +kernel
theorem dL_law_833 : decode cL_law 833 = .ok (.ifCond .eq 535, 3) := by decide +kernel
theorem dL_law_836 : decode cL_law 836 = .ok (.iconst 0, 1) := by decide +kernel
theorem dL_law_837 : decode cL_law 837 = .ok (.ireturn, 1) := by decide +kernel
theorem dL_law_838 : decode cL_law 838 = .ok (.aload_n 1, 1) := by decide +kernel
theorem dL_law_839 : decode cL_law 839 = .ok (.aload_n 0, 1) := by decide +kernel
theorem dL_law_840 : decode cL_law 840 = .ok (.iload_n 3, 1) := by decide +kernel
theorem dL_law_841 : decode cL_law 841 = .ok (.iconst 1, 1) := by decide +kernel
theorem dL_law_842 : decode cL_law 842 = .ok (.iadd, 1) := by decide +kernel
theorem dL_law_843 : decode cL_law 843 = .ok (.iaload, 1) := by decide +kernel
theorem dL_law_844 : decode cL_law 844 = .ok (.aload_n 0, 1) := by decide +kernel
theorem dL_law_845 : decode cL_law 845 = .ok (.iload_n 3, 1) := by decide +kernel
theorem dL_law_846 : decode cL_law 846 = .ok (.iconst 2, 1) := by decide +kernel
theorem dL_law_847 : decode cL_law 847 = .ok (.iadd, 1) := by decide +kernel
theorem dL_law_848 : decode cL_law 848 = .ok (.iaload, 1) := by decide +kernel
theorem dL_law_849 : decode cL_law 849 = .ok (.invokevirtual 104, 3) := by decide +kernel
theorem dL_law_852 : decode cL_law 852 = .ok (.aload_n 2, 1) := by decide +kernel
theorem dL_law_853 : decode cL_law 853 = .ok (.aload_n 0, 1) := by decide +kernel
theorem dL_law_854 : decode cL_law 854 = .ok (.iload_n 3, 1) := by decide +kernel
theorem dL_law_855 : decode cL_law 855 = .ok (.iconst 1, 1) := by decide +kernel
theorem dL_law_856 : decode cL_law 856 = .ok (.iadd, 1) := by decide +kernel
theorem dL_law_857 : decode cL_law 857 = .ok (.iaload, 1) := by decide +kernel
theorem dL_law_858 : decode cL_law 858 = .ok (.aload_n 0, 1) := by decide +kernel
theorem dL_law_859 : decode cL_law 859 = .ok (.iload_n 3, 1) := by decide +kernel
theorem dL_law_860 : decode cL_law 860 = .ok (.iconst 2, 1) := by decide +kernel
theorem dL_law_861 : decode cL_law 861 = .ok (.iadd, 1) := by decide +kernel
theorem dL_law_862 : decode cL_law 862 = .ok (.iaload, 1) := by decide +kernel
theorem dL_law_863 : decode cL_law 863 = .ok (.invokevirtual 107, 3) := by decide +kernel
theorem dL_law_866 : decode cL_law 866 = .ok (.lcmp, 1) := by decide +kernel
theorem dL_law_867 : decode cL_law 867 = .ok (.ifCond .eq 501, 3) := by decide +kernel
theorem dL_law_870 : decode cL_law 870 = .ok (.iconst 0, 1) := by decide +kernel
theorem dL_law_871 : decode cL_law 871 = .ok (.ireturn, 1) := by decide +kernel
theorem dL_law_872 : decode cL_law 872 = .ok (.aload_n 1, 1) := by decide +kernel
theorem dL_law_873 : decode cL_law 873 = .ok (.aload_n 0, 1) := by decide +kernel
theorem dL_law_874 : decode cL_law 874 = .ok (.iload_n 3, 1) := by decide +kernel
theorem dL_law_875 : decode cL_law 875 = .ok (.iconst 1, 1) := by decide +kernel
theorem dL_law_876 : decode cL_law 876 = .ok (.iadd, 1) := by decide +kernel
theorem dL_law_877 : decode cL_law 877 = .ok (.iaload, 1) := by decide +kernel
theorem dL_law_878 : decode cL_law 878 = .ok (.aload_n 0, 1) := by decide +kernel
theorem dL_law_879 : decode cL_law 879 = .ok (.iload_n 3, 1) := by decide +kernel
theorem dL_law_880 : decode cL_law 880 = .ok (.iconst 2, 1) := by decide +kernel
theorem dL_law_881 : decode cL_law 881 = .ok (.iadd, 1) := by decide +kernel
theorem dL_law_882 : decode cL_law 882 = .ok (.iaload, 1) := by decide +kernel
theorem dL_law_883 : decode cL_law 883 = .ok (.invokevirtual 108, 3) := by decide +kernel
theorem dL_law_886 : decode cL_law 886 = .ok (.aload_n 2, 1) := by decide +kernel
theorem dL_law_887 : decode cL_law 887 = .ok (.aload_n 0, 1) := by decide +kernel
theorem dL_law_888 : decode cL_law 888 = .ok (.iload_n 3, 1) := by decide +kernel
theorem dL_law_889 : decode cL_law 889 = .ok (.iconst 1, 1) := by decide +kernel
theorem dL_law_890 : decode cL_law 890 = .ok (.iadd, 1) := by decide +kernel
theorem dL_law_891 : decode cL_law 891 = .ok (.iaload, 1) := by decide +kernel
theorem dL_law_892 : decode cL_law 892 = .ok (.aload_n 0, 1) := by decide +kernel
theorem dL_law_893 : decode cL_law 893 = .ok (.iload_n 3, 1) := by decide +kernel
theorem dL_law_894 : decode cL_law 894 = .ok (.iconst 2, 1) := by decide +kernel
theorem dL_law_895 : decode cL_law 895 = .ok (.iadd, 1) := by decide +kernel
theorem dL_law_896 : decode cL_law 896 = .ok (.iaload, 1) := by decide +kernel
theorem dL_law_897 : decode cL_law 897 = .ok (.invokevirtual 111, 3) := by decide +kernel
theorem dL_law_900 : decode cL_law 900 = .ok (.if_icmp .eq 468, 3) := by decide +kernel
theorem dL_law_903 : decode cL_law 903 = .ok (.iconst 0, 1) := by decide +kernel
theorem dL_law_904 : decode cL_law 904 = .ok (.ireturn, 1) := by decide +kernel
theorem dL_law_905 : decode cL_law 905 = .ok (.aload_n 1, 1) := by decide +kernel
theorem dL_law_906 : decode cL_law 906 = .ok (.aload_n 0, 1) := by decide +kernel
theorem dL_law_907 : decode cL_law 907 = .ok (.iload_n 3, 1) := by decide +kernel
theorem dL_law_908 : decode cL_law 908 = .ok (.iconst 1, 1) := by decide +kernel
theorem dL_law_909 : decode cL_law 909 = .ok (.iadd, 1) := by decide +kernel
theorem dL_law_910 : decode cL_law 910 = .ok (.iaload, 1) := by decide +kernel
theorem dL_law_911 : decode cL_law 911 = .ok (.invokevirtual 112, 3) := by decide +kernel
theorem dL_law_914 : decode cL_law 914 = .ok (.aload_n 2, 1) := by decide +kernel
theorem dL_law_915 : decode cL_law 915 = .ok (.aload_n 0, 1) := by decide +kernel
theorem dL_law_916 : decode cL_law 916 = .ok (.iload_n 3, 1) := by decide +kernel
theorem dL_law_917 : decode cL_law 917 = .ok (.iconst 1, 1) := by decide +kernel
theorem dL_law_918 : decode cL_law 918 = .ok (.iadd, 1) := by decide +kernel
theorem dL_law_919 : decode cL_law 919 = .ok (.iaload, 1) := by decide +kernel
theorem dL_law_920 : decode cL_law 920 = .ok (.invokevirtual 115, 3) := by decide +kernel
theorem dL_law_923 : decode cL_law 923 = .ok (.if_icmp .eq 445, 3) := by decide +kernel
theorem dL_law_926 : decode cL_law 926 = .ok (.iconst 0, 1) := by decide +kernel
theorem dL_law_927 : decode cL_law 927 = .ok (.ireturn, 1) := by decide +kernel
theorem dL_law_928 : decode cL_law 928 = .ok (.aload_n 1, 1) := by decide +kernel
theorem dL_law_929 : decode cL_law 929 = .ok (.aload_n 0, 1) := by decide +kernel
theorem dL_law_930 : decode cL_law 930 = .ok (.iload_n 3, 1) := by decide +kernel
theorem dL_law_931 : decode cL_law 931 = .ok (.iconst 1, 1) := by decide +kernel
theorem dL_law_932 : decode cL_law 932 = .ok (.iadd, 1) := by decide +kernel
theorem dL_law_933 : decode cL_law 933 = .ok (.iaload, 1) := by decide +kernel
theorem dL_law_934 : decode cL_law 934 = .ok (.aload_n 0, 1) := by decide +kernel
theorem dL_law_935 : decode cL_law 935 = .ok (.iload_n 3, 1) := by decide +kernel
theorem dL_law_936 : decode cL_law 936 = .ok (.iconst 2, 1) := by decide +kernel
theorem dL_law_937 : decode cL_law 937 = .ok (.iadd, 1) := by decide +kernel
theorem dL_law_938 : decode cL_law 938 = .ok (.iaload, 1) := by decide +kernel
theorem dL_law_939 : decode cL_law 939 = .ok (.invokevirtual 116, 3) := by decide +kernel
theorem dL_law_942 : decode cL_law 942 = .ok (.aload_n 2, 1) := by decide +kernel
theorem dL_law_943 : decode cL_law 943 = .ok (.aload_n 0, 1) := by decide +kernel
theorem dL_law_944 : decode cL_law 944 = .ok (.iload_n 3, 1) := by decide +kernel
theorem dL_law_945 : decode cL_law 945 = .ok (.iconst 1, 1) := by decide +kernel
theorem dL_law_946 : decode cL_law 946 = .ok (.iadd, 1) := by decide +kernel
theorem dL_law_947 : decode cL_law 947 = .ok (.iaload, 1) := by decide +kernel
theorem dL_law_948 : decode cL_law 948 = .ok (.aload_n 0, 1) := by decide +kernel
theorem dL_law_949 : decode cL_law 949 = .ok (.iload_n 3, 1) := by decide +kernel
theorem dL_law_950 : decode cL_law 950 = .ok (.iconst 2, 1) := by decide +kernel
theorem dL_law_951 : decode cL_law 951 = .ok (.iadd, 1) := by decide +kernel
theorem dL_law_952 : decode cL_law 952 = .ok (.iaload, 1) := by decide +kernel
theorem dL_law_953 : decode cL_law 953 = .ok (.invokevirtual 119, 3) := by decide +kernel
theorem dL_law_956 : decode cL_law 956 = .ok (.if_icmp .eq 412, 3) := by decide +kernel
theorem dL_law_959 : decode cL_law 959 = .ok (.iconst 0, 1) := by decide +kernel
theorem dL_law_960 : decode cL_law 960 = .ok (.ireturn, 1) := by decide +kernel
theorem dL_law_961 : decode cL_law 961 = .ok (.aload_n 1, 1) := by decide +kernel
theorem dL_law_962 : decode cL_law 962 = .ok (.invokevirtual 120, 3) := by decide +kernel
theorem dL_law_965 : decode cL_law 965 = .ok (.aload_n 2, 1) := by decide +kernel
theorem dL_law_966 : decode cL_law 966 = .ok (.invokevirtual 123, 3) := by decide +kernel
theorem dL_law_969 : decode cL_law 969 = .ok (.if_icmp .eq 399, 3) := by decide +kernel
theorem dL_law_972 : decode cL_law 972 = .ok (.iconst 0, 1) := by decide +kernel
theorem dL_law_973 : decode cL_law 973 = .ok (.ireturn, 1) := by decide +kernel
theorem dL_law_974 : decode cL_law 974 = .ok (.aload_n 1, 1) := by decide +kernel
theorem dL_law_975 : decode cL_law 975 = .ok (.aload_n 0, 1) := by decide +kernel
theorem dL_law_976 : decode cL_law 976 = .ok (.iload_n 3, 1) := by decide +kernel
theorem dL_law_977 : decode cL_law 977 = .ok (.iconst 1, 1) := by decide +kernel
theorem dL_law_978 : decode cL_law 978 = .ok (.iadd, 1) := by decide +kernel
theorem dL_law_979 : decode cL_law 979 = .ok (.iaload, 1) := by decide +kernel
theorem dL_law_980 : decode cL_law 980 = .ok (.aload_n 0, 1) := by decide +kernel
theorem dL_law_981 : decode cL_law 981 = .ok (.iload_n 3, 1) := by decide +kernel
theorem dL_law_982 : decode cL_law 982 = .ok (.iconst 2, 1) := by decide +kernel
theorem dL_law_983 : decode cL_law 983 = .ok (.iadd, 1) := by decide +kernel
theorem dL_law_984 : decode cL_law 984 = .ok (.iaload, 1) := by decide +kernel
theorem dL_law_985 : decode cL_law 985 = .ok (.invokevirtual 124, 3) := by decide +kernel
theorem dL_law_988 : decode cL_law 988 = .ok (.aload_n 2, 1) := by decide +kernel
theorem dL_law_989 : decode cL_law 989 = .ok (.aload_n 0, 1) := by decide +kernel
theorem dL_law_990 : decode cL_law 990 = .ok (.iload_n 3, 1) := by decide +kernel
theorem dL_law_991 : decode cL_law 991 = .ok (.iconst 1, 1) := by decide +kernel
theorem dL_law_992 : decode cL_law 992 = .ok (.iadd, 1) := by decide +kernel
theorem dL_law_993 : decode cL_law 993 = .ok (.iaload, 1) := by decide +kernel
theorem dL_law_994 : decode cL_law 994 = .ok (.aload_n 0, 1) := by decide +kernel
theorem dL_law_995 : decode cL_law 995 = .ok (.iload_n 3, 1) := by decide +kernel
theorem dL_law_996 : decode cL_law 996 = .ok (.iconst 2, 1) := by decide +kernel
theorem dL_law_997 : decode cL_law 997 = .ok (.iadd, 1) := by decide +kernel
theorem dL_law_998 : decode cL_law 998 = .ok (.iaload, 1) := by decide +kernel
theorem dL_law_999 : decode cL_law 999 = .ok (.invokevirtual 127, 3) := by decide +kernel
theorem dL_law_1002 : decode cL_law 1002 = .ok (.if_icmp .eq 366, 3) := by decide +kernel
theorem dL_law_1005 : decode cL_law 1005 = .ok (.iconst 0, 1) := by decide +kernel
theorem dL_law_1006 : decode cL_law 1006 = .ok (.ireturn, 1) := by decide +kernel
theorem dL_law_1007 : decode cL_law 1007 = .ok (.aload_n 1, 1) := by decide +kernel
theorem dL_law_1008 : decode cL_law 1008 = .ok (.invokevirtual 128, 3) := by decide +kernel
theorem dL_law_1011 : decode cL_law 1011 = .ok (.aload_n 2, 1) := by decide +kernel
theorem dL_law_1012 : decode cL_law 1012 = .ok (.invokevirtual 131, 3) := by decide +kernel
theorem dL_law_1015 : decode cL_law 1015 = .ok (.if_icmp .eq 353, 3) := by decide +kernel
theorem dL_law_1018 : decode cL_law 1018 = .ok (.iconst 0, 1) := by decide +kernel
theorem dL_law_1019 : decode cL_law 1019 = .ok (.ireturn, 1) := by decide +kernel
theorem dL_law_1020 : decode cL_law 1020 = .ok (.aload_n 1, 1) := by decide +kernel
theorem dL_law_1021 : decode cL_law 1021 = .ok (.invokevirtual 132, 3) := by decide +kernel
theorem dL_law_1024 : decode cL_law 1024 = .ok (.aload_n 2, 1) := by decide +kernel
theorem dL_law_1025 : decode cL_law 1025 = .ok (.invokevirtual 135, 3) := by decide +kernel
theorem dL_law_1028 : decode cL_law 1028 = .ok (.if_icmp .eq 340, 3) := by decide +kernel
theorem dL_law_1031 : decode cL_law 1031 = .ok (.iconst 0, 1) := by decide +kernel
theorem dL_law_1032 : decode cL_law 1032 = .ok (.ireturn, 1) := by decide +kernel
theorem dL_law_1033 : decode cL_law 1033 = .ok (.aload_n 1, 1) := by decide +kernel
theorem dL_law_1034 : decode cL_law 1034 = .ok (.aload_n 0, 1) := by decide +kernel
theorem dL_law_1035 : decode cL_law 1035 = .ok (.iload_n 3, 1) := by decide +kernel
theorem dL_law_1036 : decode cL_law 1036 = .ok (.iconst 1, 1) := by decide +kernel
theorem dL_law_1037 : decode cL_law 1037 = .ok (.iadd, 1) := by decide +kernel
theorem dL_law_1038 : decode cL_law 1038 = .ok (.iaload, 1) := by decide +kernel
theorem dL_law_1039 : decode cL_law 1039 = .ok (.aload_n 0, 1) := by decide +kernel
theorem dL_law_1040 : decode cL_law 1040 = .ok (.iload_n 3, 1) := by decide +kernel
theorem dL_law_1041 : decode cL_law 1041 = .ok (.iconst 2, 1) := by decide +kernel
theorem dL_law_1042 : decode cL_law 1042 = .ok (.iadd, 1) := by decide +kernel
theorem dL_law_1043 : decode cL_law 1043 = .ok (.iaload, 1) := by decide +kernel
theorem dL_law_1044 : decode cL_law 1044 = .ok (.aload_n 0, 1) := by decide +kernel
theorem dL_law_1045 : decode cL_law 1045 = .ok (.iload_n 3, 1) := by decide +kernel
theorem dL_law_1046 : decode cL_law 1046 = .ok (.iconst 3, 1) := by decide +kernel
theorem dL_law_1047 : decode cL_law 1047 = .ok (.iadd, 1) := by decide +kernel
theorem dL_law_1048 : decode cL_law 1048 = .ok (.iaload, 1) := by decide +kernel
theorem dL_law_1049 : decode cL_law 1049 = .ok (.invokevirtual 136, 3) := by decide +kernel
theorem dL_law_1052 : decode cL_law 1052 = .ok (.aload_n 2, 1) := by decide +kernel
theorem dL_law_1053 : decode cL_law 1053 = .ok (.aload_n 0, 1) := by decide +kernel
theorem dL_law_1054 : decode cL_law 1054 = .ok (.iload_n 3, 1) := by decide +kernel
theorem dL_law_1055 : decode cL_law 1055 = .ok (.iconst 1, 1) := by decide +kernel
theorem dL_law_1056 : decode cL_law 1056 = .ok (.iadd, 1) := by decide +kernel
theorem dL_law_1057 : decode cL_law 1057 = .ok (.iaload, 1) := by decide +kernel
theorem dL_law_1058 : decode cL_law 1058 = .ok (.aload_n 0, 1) := by decide +kernel
theorem dL_law_1059 : decode cL_law 1059 = .ok (.iload_n 3, 1) := by decide +kernel
theorem dL_law_1060 : decode cL_law 1060 = .ok (.iconst 2, 1) := by decide +kernel
theorem dL_law_1061 : decode cL_law 1061 = .ok (.iadd, 1) := by decide +kernel
theorem dL_law_1062 : decode cL_law 1062 = .ok (.iaload, 1) := by decide +kernel
theorem dL_law_1063 : decode cL_law 1063 = .ok (.aload_n 0, 1) := by decide +kernel
theorem dL_law_1064 : decode cL_law 1064 = .ok (.iload_n 3, 1) := by decide +kernel
theorem dL_law_1065 : decode cL_law 1065 = .ok (.iconst 3, 1) := by decide +kernel
theorem dL_law_1066 : decode cL_law 1066 = .ok (.iadd, 1) := by decide +kernel
theorem dL_law_1067 : decode cL_law 1067 = .ok (.iaload, 1) := by decide +kernel
theorem dL_law_1068 : decode cL_law 1068 = .ok (.invokevirtual 139, 3) := by decide +kernel
theorem dL_law_1071 : decode cL_law 1071 = .ok (.if_icmp .eq 297, 3) := by decide +kernel
theorem dL_law_1074 : decode cL_law 1074 = .ok (.iconst 0, 1) := by decide +kernel
theorem dL_law_1075 : decode cL_law 1075 = .ok (.ireturn, 1) := by decide +kernel
theorem dL_law_1076 : decode cL_law 1076 = .ok (.aload_n 1, 1) := by decide +kernel
theorem dL_law_1077 : decode cL_law 1077 = .ok (.aload_n 0, 1) := by decide +kernel
theorem dL_law_1078 : decode cL_law 1078 = .ok (.iload_n 3, 1) := by decide +kernel
theorem dL_law_1079 : decode cL_law 1079 = .ok (.iconst 1, 1) := by decide +kernel
theorem dL_law_1080 : decode cL_law 1080 = .ok (.iadd, 1) := by decide +kernel
theorem dL_law_1081 : decode cL_law 1081 = .ok (.iaload, 1) := by decide +kernel
theorem dL_law_1082 : decode cL_law 1082 = .ok (.invokevirtual 140, 3) := by decide +kernel
theorem dL_law_1085 : decode cL_law 1085 = .ok (.aload_n 2, 1) := by decide +kernel
theorem dL_law_1086 : decode cL_law 1086 = .ok (.aload_n 0, 1) := by decide +kernel
theorem dL_law_1087 : decode cL_law 1087 = .ok (.iload_n 3, 1) := by decide +kernel
theorem dL_law_1088 : decode cL_law 1088 = .ok (.iconst 1, 1) := by decide +kernel
theorem dL_law_1089 : decode cL_law 1089 = .ok (.iadd, 1) := by decide +kernel
theorem dL_law_1090 : decode cL_law 1090 = .ok (.iaload, 1) := by decide +kernel
theorem dL_law_1091 : decode cL_law 1091 = .ok (.invokevirtual 143, 3) := by decide +kernel
theorem dL_law_1094 : decode cL_law 1094 = .ok (.if_icmp .eq 274, 3) := by decide +kernel
theorem dL_law_1097 : decode cL_law 1097 = .ok (.iconst 0, 1) := by decide +kernel
theorem dL_law_1098 : decode cL_law 1098 = .ok (.ireturn, 1) := by decide +kernel
theorem dL_law_1099 : decode cL_law 1099 = .ok (.aload_n 1, 1) := by decide +kernel
theorem dL_law_1100 : decode cL_law 1100 = .ok (.aload_n 0, 1) := by decide +kernel
theorem dL_law_1101 : decode cL_law 1101 = .ok (.iload_n 3, 1) := by decide +kernel
theorem dL_law_1102 : decode cL_law 1102 = .ok (.iconst 1, 1) := by decide +kernel
theorem dL_law_1103 : decode cL_law 1103 = .ok (.iadd, 1) := by decide +kernel
theorem dL_law_1104 : decode cL_law 1104 = .ok (.iaload, 1) := by decide +kernel
theorem dL_law_1105 : decode cL_law 1105 = .ok (.aload_n 0, 1) := by decide +kernel
theorem dL_law_1106 : decode cL_law 1106 = .ok (.iload_n 3, 1) := by decide +kernel
theorem dL_law_1107 : decode cL_law 1107 = .ok (.iconst 2, 1) := by decide +kernel
theorem dL_law_1108 : decode cL_law 1108 = .ok (.iadd, 1) := by decide +kernel
theorem dL_law_1109 : decode cL_law 1109 = .ok (.iaload, 1) := by decide +kernel
theorem dL_law_1110 : decode cL_law 1110 = .ok (.invokevirtual 144, 3) := by decide +kernel
theorem dL_law_1113 : decode cL_law 1113 = .ok (.aload_n 2, 1) := by decide +kernel
theorem dL_law_1114 : decode cL_law 1114 = .ok (.aload_n 0, 1) := by decide +kernel
theorem dL_law_1115 : decode cL_law 1115 = .ok (.iload_n 3, 1) := by decide +kernel
theorem dL_law_1116 : decode cL_law 1116 = .ok (.iconst 1, 1) := by decide +kernel
theorem dL_law_1117 : decode cL_law 1117 = .ok (.iadd, 1) := by decide +kernel
theorem dL_law_1118 : decode cL_law 1118 = .ok (.iaload, 1) := by decide +kernel
theorem dL_law_1119 : decode cL_law 1119 = .ok (.aload_n 0, 1) := by decide +kernel
theorem dL_law_1120 : decode cL_law 1120 = .ok (.iload_n 3, 1) := by decide +kernel
theorem dL_law_1121 : decode cL_law 1121 = .ok (.iconst 2, 1) := by decide +kernel
theorem dL_law_1122 : decode cL_law 1122 = .ok (.iadd, 1) := by decide +kernel
theorem dL_law_1123 : decode cL_law 1123 = .ok (.iaload, 1) := by decide +kernel
theorem dL_law_1124 : decode cL_law 1124 = .ok (.invokevirtual 147, 3) := by decide +kernel
theorem dL_law_1127 : decode cL_law 1127 = .ok (.if_icmp .eq 241, 3) := by decide +kernel
theorem dL_law_1130 : decode cL_law 1130 = .ok (.iconst 0, 1) := by decide +kernel
theorem dL_law_1131 : decode cL_law 1131 = .ok (.ireturn, 1) := by decide +kernel
theorem dL_law_1132 : decode cL_law 1132 = .ok (.aload_n 1, 1) := by decide +kernel
theorem dL_law_1133 : decode cL_law 1133 = .ok (.aload_n 0, 1) := by decide +kernel
theorem dL_law_1134 : decode cL_law 1134 = .ok (.iload_n 3, 1) := by decide +kernel
theorem dL_law_1135 : decode cL_law 1135 = .ok (.iconst 1, 1) := by decide +kernel
theorem dL_law_1136 : decode cL_law 1136 = .ok (.iadd, 1) := by decide +kernel
theorem dL_law_1137 : decode cL_law 1137 = .ok (.iaload, 1) := by decide +kernel
theorem dL_law_1138 : decode cL_law 1138 = .ok (.invokevirtual 148, 3) := by decide +kernel
theorem dL_law_1141 : decode cL_law 1141 = .ok (.aload_n 2, 1) := by decide +kernel
theorem dL_law_1142 : decode cL_law 1142 = .ok (.aload_n 0, 1) := by decide +kernel
theorem dL_law_1143 : decode cL_law 1143 = .ok (.iload_n 3, 1) := by decide +kernel
theorem dL_law_1144 : decode cL_law 1144 = .ok (.iconst 1, 1) := by decide +kernel
theorem dL_law_1145 : decode cL_law 1145 = .ok (.iadd, 1) := by decide +kernel
theorem dL_law_1146 : decode cL_law 1146 = .ok (.iaload, 1) := by decide +kernel
theorem dL_law_1147 : decode cL_law 1147 = .ok (.invokevirtual 151, 3) := by decide +kernel
theorem dL_law_1150 : decode cL_law 1150 = .ok (.if_icmp .eq 218, 3) := by decide +kernel
theorem dL_law_1153 : decode cL_law 1153 = .ok (.iconst 0, 1) := by decide +kernel
theorem dL_law_1154 : decode cL_law 1154 = .ok (.ireturn, 1) := by decide +kernel
theorem dL_law_1155 : decode cL_law 1155 = .ok (.aload_n 1, 1) := by decide +kernel
theorem dL_law_1156 : decode cL_law 1156 = .ok (.aload_n 0, 1) := by decide +kernel
theorem dL_law_1157 : decode cL_law 1157 = .ok (.iload_n 3, 1) := by decide +kernel
theorem dL_law_1158 : decode cL_law 1158 = .ok (.iconst 1, 1) := by decide +kernel
theorem dL_law_1159 : decode cL_law 1159 = .ok (.iadd, 1) := by decide +kernel
theorem dL_law_1160 : decode cL_law 1160 = .ok (.iaload, 1) := by decide +kernel
theorem dL_law_1161 : decode cL_law 1161 = .ok (.aload_n 0, 1) := by decide +kernel
theorem dL_law_1162 : decode cL_law 1162 = .ok (.iload_n 3, 1) := by decide +kernel
theorem dL_law_1163 : decode cL_law 1163 = .ok (.iconst 2, 1) := by decide +kernel
theorem dL_law_1164 : decode cL_law 1164 = .ok (.iadd, 1) := by decide +kernel
theorem dL_law_1165 : decode cL_law 1165 = .ok (.iaload, 1) := by decide +kernel
theorem dL_law_1166 : decode cL_law 1166 = .ok (.aload_n 0, 1) := by decide +kernel
theorem dL_law_1167 : decode cL_law 1167 = .ok (.iload_n 3, 1) := by decide +kernel
theorem dL_law_1168 : decode cL_law 1168 = .ok (.iconst 3, 1) := by decide +kernel
theorem dL_law_1169 : decode cL_law 1169 = .ok (.iadd, 1) := by decide +kernel
theorem dL_law_1170 : decode cL_law 1170 = .ok (.iaload, 1) := by decide +kernel
theorem dL_law_1171 : decode cL_law 1171 = .ok (.invokevirtual 152, 3) := by decide +kernel
theorem dL_law_1174 : decode cL_law 1174 = .ok (.aload_n 2, 1) := by decide +kernel
theorem dL_law_1175 : decode cL_law 1175 = .ok (.aload_n 0, 1) := by decide +kernel
theorem dL_law_1176 : decode cL_law 1176 = .ok (.iload_n 3, 1) := by decide +kernel
theorem dL_law_1177 : decode cL_law 1177 = .ok (.iconst 1, 1) := by decide +kernel
theorem dL_law_1178 : decode cL_law 1178 = .ok (.iadd, 1) := by decide +kernel
theorem dL_law_1179 : decode cL_law 1179 = .ok (.iaload, 1) := by decide +kernel
theorem dL_law_1180 : decode cL_law 1180 = .ok (.aload_n 0, 1) := by decide +kernel
theorem dL_law_1181 : decode cL_law 1181 = .ok (.iload_n 3, 1) := by decide +kernel
theorem dL_law_1182 : decode cL_law 1182 = .ok (.iconst 2, 1) := by decide +kernel
theorem dL_law_1183 : decode cL_law 1183 = .ok (.iadd, 1) := by decide +kernel
theorem dL_law_1184 : decode cL_law 1184 = .ok (.iaload, 1) := by decide +kernel
theorem dL_law_1185 : decode cL_law 1185 = .ok (.aload_n 0, 1) := by decide +kernel
theorem dL_law_1186 : decode cL_law 1186 = .ok (.iload_n 3, 1) := by decide +kernel
theorem dL_law_1187 : decode cL_law 1187 = .ok (.iconst 3, 1) := by decide +kernel
theorem dL_law_1188 : decode cL_law 1188 = .ok (.iadd, 1) := by decide +kernel
theorem dL_law_1189 : decode cL_law 1189 = .ok (.iaload, 1) := by decide +kernel
theorem dL_law_1190 : decode cL_law 1190 = .ok (.invokevirtual 155, 3) := by decide +kernel
theorem dL_law_1193 : decode cL_law 1193 = .ok (.if_icmp .eq 175, 3) := by decide +kernel
theorem dL_law_1196 : decode cL_law 1196 = .ok (.iconst 0, 1) := by decide +kernel
theorem dL_law_1197 : decode cL_law 1197 = .ok (.ireturn, 1) := by decide +kernel
theorem dL_law_1198 : decode cL_law 1198 = .ok (.aload_n 1, 1) := by decide +kernel
theorem dL_law_1199 : decode cL_law 1199 = .ok (.aload_n 0, 1) := by decide +kernel
theorem dL_law_1200 : decode cL_law 1200 = .ok (.iload_n 3, 1) := by decide +kernel
theorem dL_law_1201 : decode cL_law 1201 = .ok (.iconst 1, 1) := by decide +kernel
theorem dL_law_1202 : decode cL_law 1202 = .ok (.iadd, 1) := by decide +kernel
theorem dL_law_1203 : decode cL_law 1203 = .ok (.iaload, 1) := by decide +kernel
theorem dL_law_1204 : decode cL_law 1204 = .ok (.aload_n 0, 1) := by decide +kernel
theorem dL_law_1205 : decode cL_law 1205 = .ok (.iload_n 3, 1) := by decide +kernel
theorem dL_law_1206 : decode cL_law 1206 = .ok (.iconst 2, 1) := by decide +kernel
theorem dL_law_1207 : decode cL_law 1207 = .ok (.iadd, 1) := by decide +kernel
theorem dL_law_1208 : decode cL_law 1208 = .ok (.iaload, 1) := by decide +kernel
theorem dL_law_1209 : decode cL_law 1209 = .ok (.aload_n 0, 1) := by decide +kernel
theorem dL_law_1210 : decode cL_law 1210 = .ok (.iload_n 3, 1) := by decide +kernel
theorem dL_law_1211 : decode cL_law 1211 = .ok (.iconst 3, 1) := by decide +kernel
theorem dL_law_1212 : decode cL_law 1212 = .ok (.iadd, 1) := by decide +kernel
theorem dL_law_1213 : decode cL_law 1213 = .ok (.iaload, 1) := by decide +kernel
theorem dL_law_1214 : decode cL_law 1214 = .ok (.i2l, 1) := by decide +kernel
theorem dL_law_1215 : decode cL_law 1215 = .ok (.bipush 32, 2) := by decide +kernel
theorem dL_law_1217 : decode cL_law 1217 = .ok (.lshl, 1) := by decide +kernel
theorem dL_law_1218 : decode cL_law 1218 = .ok (.aload_n 0, 1) := by decide +kernel
theorem dL_law_1219 : decode cL_law 1219 = .ok (.iload_n 3, 1) := by decide +kernel
theorem dL_law_1220 : decode cL_law 1220 = .ok (.iconst 4, 1) := by decide +kernel
theorem dL_law_1221 : decode cL_law 1221 = .ok (.iadd, 1) := by decide +kernel
theorem dL_law_1222 : decode cL_law 1222 = .ok (.iaload, 1) := by decide +kernel
theorem dL_law_1223 : decode cL_law 1223 = .ok (.i2l, 1) := by decide +kernel
theorem dL_law_1224 : decode cL_law 1224 = .ok (.ldc2_w 156, 3) := by decide +kernel
theorem dL_law_1227 : decode cL_law 1227 = .ok (.land, 1) := by decide +kernel
theorem dL_law_1228 : decode cL_law 1228 = .ok (.lor, 1) := by decide +kernel
theorem dL_law_1229 : decode cL_law 1229 = .ok (.invokevirtual 158, 3) := by decide +kernel
theorem dL_law_1232 : decode cL_law 1232 = .ok (.aload_n 2, 1) := by decide +kernel
theorem dL_law_1233 : decode cL_law 1233 = .ok (.aload_n 0, 1) := by decide +kernel
theorem dL_law_1234 : decode cL_law 1234 = .ok (.iload_n 3, 1) := by decide +kernel
theorem dL_law_1235 : decode cL_law 1235 = .ok (.iconst 1, 1) := by decide +kernel
theorem dL_law_1236 : decode cL_law 1236 = .ok (.iadd, 1) := by decide +kernel
theorem dL_law_1237 : decode cL_law 1237 = .ok (.iaload, 1) := by decide +kernel
theorem dL_law_1238 : decode cL_law 1238 = .ok (.aload_n 0, 1) := by decide +kernel
theorem dL_law_1239 : decode cL_law 1239 = .ok (.iload_n 3, 1) := by decide +kernel
theorem dL_law_1240 : decode cL_law 1240 = .ok (.iconst 2, 1) := by decide +kernel
theorem dL_law_1241 : decode cL_law 1241 = .ok (.iadd, 1) := by decide +kernel
theorem dL_law_1242 : decode cL_law 1242 = .ok (.iaload, 1) := by decide +kernel
theorem dL_law_1243 : decode cL_law 1243 = .ok (.aload_n 0, 1) := by decide +kernel
theorem dL_law_1244 : decode cL_law 1244 = .ok (.iload_n 3, 1) := by decide +kernel
theorem dL_law_1245 : decode cL_law 1245 = .ok (.iconst 3, 1) := by decide +kernel
theorem dL_law_1246 : decode cL_law 1246 = .ok (.iadd, 1) := by decide +kernel
theorem dL_law_1247 : decode cL_law 1247 = .ok (.iaload, 1) := by decide +kernel
theorem dL_law_1248 : decode cL_law 1248 = .ok (.i2l, 1) := by decide +kernel
theorem dL_law_1249 : decode cL_law 1249 = .ok (.bipush 32, 2) := by decide +kernel
theorem dL_law_1251 : decode cL_law 1251 = .ok (.lshl, 1) := by decide +kernel
theorem dL_law_1252 : decode cL_law 1252 = .ok (.aload_n 0, 1) := by decide +kernel
theorem dL_law_1253 : decode cL_law 1253 = .ok (.iload_n 3, 1) := by decide +kernel
theorem dL_law_1254 : decode cL_law 1254 = .ok (.iconst 4, 1) := by decide +kernel
theorem dL_law_1255 : decode cL_law 1255 = .ok (.iadd, 1) := by decide +kernel
theorem dL_law_1256 : decode cL_law 1256 = .ok (.iaload, 1) := by decide +kernel
theorem dL_law_1257 : decode cL_law 1257 = .ok (.i2l, 1) := by decide +kernel
theorem dL_law_1258 : decode cL_law 1258 = .ok (.ldc2_w 156, 3) := by decide +kernel
theorem dL_law_1261 : decode cL_law 1261 = .ok (.land, 1) := by decide +kernel
theorem dL_law_1262 : decode cL_law 1262 = .ok (.lor, 1) := by decide +kernel
theorem dL_law_1263 : decode cL_law 1263 = .ok (.invokevirtual 162, 3) := by decide +kernel
theorem dL_law_1266 : decode cL_law 1266 = .ok (.if_icmp .eq 102, 3) := by decide +kernel
theorem dL_law_1269 : decode cL_law 1269 = .ok (.iconst 0, 1) := by decide +kernel
theorem dL_law_1270 : decode cL_law 1270 = .ok (.ireturn, 1) := by decide +kernel
theorem dL_law_1271 : decode cL_law 1271 = .ok (.aload_n 1, 1) := by decide +kernel
theorem dL_law_1272 : decode cL_law 1272 = .ok (.aload_n 0, 1) := by decide +kernel
theorem dL_law_1273 : decode cL_law 1273 = .ok (.iload_n 3, 1) := by decide +kernel
theorem dL_law_1274 : decode cL_law 1274 = .ok (.iconst 1, 1) := by decide +kernel
theorem dL_law_1275 : decode cL_law 1275 = .ok (.iadd, 1) := by decide +kernel
theorem dL_law_1276 : decode cL_law 1276 = .ok (.iaload, 1) := by decide +kernel
theorem dL_law_1277 : decode cL_law 1277 = .ok (.aload_n 0, 1) := by decide +kernel
theorem dL_law_1278 : decode cL_law 1278 = .ok (.iload_n 3, 1) := by decide +kernel
theorem dL_law_1279 : decode cL_law 1279 = .ok (.iconst 2, 1) := by decide +kernel
theorem dL_law_1280 : decode cL_law 1280 = .ok (.iadd, 1) := by decide +kernel
theorem dL_law_1281 : decode cL_law 1281 = .ok (.iaload, 1) := by decide +kernel
theorem dL_law_1282 : decode cL_law 1282 = .ok (.invokevirtual 163, 3) := by decide +kernel
theorem dL_law_1285 : decode cL_law 1285 = .ok (.aload_n 2, 1) := by decide +kernel
theorem dL_law_1286 : decode cL_law 1286 = .ok (.aload_n 0, 1) := by decide +kernel
theorem dL_law_1287 : decode cL_law 1287 = .ok (.iload_n 3, 1) := by decide +kernel
theorem dL_law_1288 : decode cL_law 1288 = .ok (.iconst 1, 1) := by decide +kernel
theorem dL_law_1289 : decode cL_law 1289 = .ok (.iadd, 1) := by decide +kernel
theorem dL_law_1290 : decode cL_law 1290 = .ok (.iaload, 1) := by decide +kernel
theorem dL_law_1291 : decode cL_law 1291 = .ok (.aload_n 0, 1) := by decide +kernel
theorem dL_law_1292 : decode cL_law 1292 = .ok (.iload_n 3, 1) := by decide +kernel
theorem dL_law_1293 : decode cL_law 1293 = .ok (.iconst 2, 1) := by decide +kernel
theorem dL_law_1294 : decode cL_law 1294 = .ok (.iadd, 1) := by decide +kernel
theorem dL_law_1295 : decode cL_law 1295 = .ok (.iaload, 1) := by decide +kernel
theorem dL_law_1296 : decode cL_law 1296 = .ok (.invokevirtual 166, 3) := by decide +kernel
theorem dL_law_1299 : decode cL_law 1299 = .ok (.lcmp, 1) := by decide +kernel
theorem dL_law_1300 : decode cL_law 1300 = .ok (.ifCond .eq 68, 3) := by decide +kernel
theorem dL_law_1303 : decode cL_law 1303 = .ok (.iconst 0, 1) := by decide +kernel
theorem dL_law_1304 : decode cL_law 1304 = .ok (.ireturn, 1) := by decide +kernel
theorem dL_law_1305 : decode cL_law 1305 = .ok (.aload_n 1, 1) := by decide +kernel
theorem dL_law_1306 : decode cL_law 1306 = .ok (.aload_n 0, 1) := by decide +kernel
theorem dL_law_1307 : decode cL_law 1307 = .ok (.iload_n 3, 1) := by decide +kernel
theorem dL_law_1308 : decode cL_law 1308 = .ok (.iconst 1, 1) := by decide +kernel
theorem dL_law_1309 : decode cL_law 1309 = .ok (.iadd, 1) := by decide +kernel
theorem dL_law_1310 : decode cL_law 1310 = .ok (.iaload, 1) := by decide +kernel
theorem dL_law_1311 : decode cL_law 1311 = .ok (.aload_n 0, 1) := by decide +kernel
theorem dL_law_1312 : decode cL_law 1312 = .ok (.iload_n 3, 1) := by decide +kernel
theorem dL_law_1313 : decode cL_law 1313 = .ok (.iconst 2, 1) := by decide +kernel
theorem dL_law_1314 : decode cL_law 1314 = .ok (.iadd, 1) := by decide +kernel
theorem dL_law_1315 : decode cL_law 1315 = .ok (.iaload, 1) := by decide +kernel
theorem dL_law_1316 : decode cL_law 1316 = .ok (.aload_n 0, 1) := by decide +kernel
theorem dL_law_1317 : decode cL_law 1317 = .ok (.iload_n 3, 1) := by decide +kernel
theorem dL_law_1318 : decode cL_law 1318 = .ok (.iconst 3, 1) := by decide +kernel
theorem dL_law_1319 : decode cL_law 1319 = .ok (.iadd, 1) := by decide +kernel
theorem dL_law_1320 : decode cL_law 1320 = .ok (.iaload, 1) := by decide +kernel
theorem dL_law_1321 : decode cL_law 1321 = .ok (.aload_n 0, 1) := by decide +kernel
theorem dL_law_1322 : decode cL_law 1322 = .ok (.iload_n 3, 1) := by decide +kernel
theorem dL_law_1323 : decode cL_law 1323 = .ok (.iconst 4, 1) := by decide +kernel
theorem dL_law_1324 : decode cL_law 1324 = .ok (.iadd, 1) := by decide +kernel
theorem dL_law_1325 : decode cL_law 1325 = .ok (.iaload, 1) := by decide +kernel
theorem dL_law_1326 : decode cL_law 1326 = .ok (.aload_n 0, 1) := by decide +kernel
theorem dL_law_1327 : decode cL_law 1327 = .ok (.iload_n 3, 1) := by decide +kernel
theorem dL_law_1328 : decode cL_law 1328 = .ok (.iconst 5, 1) := by decide +kernel
theorem dL_law_1329 : decode cL_law 1329 = .ok (.iadd, 1) := by decide +kernel
theorem dL_law_1330 : decode cL_law 1330 = .ok (.iaload, 1) := by decide +kernel
theorem dL_law_1331 : decode cL_law 1331 = .ok (.invokevirtual 167, 3) := by decide +kernel
theorem dL_law_1334 : decode cL_law 1334 = .ok (.aload_n 2, 1) := by decide +kernel
theorem dL_law_1335 : decode cL_law 1335 = .ok (.aload_n 0, 1) := by decide +kernel
theorem dL_law_1336 : decode cL_law 1336 = .ok (.iload_n 3, 1) := by decide +kernel
theorem dL_law_1337 : decode cL_law 1337 = .ok (.iconst 1, 1) := by decide +kernel
theorem dL_law_1338 : decode cL_law 1338 = .ok (.iadd, 1) := by decide +kernel
theorem dL_law_1339 : decode cL_law 1339 = .ok (.iaload, 1) := by decide +kernel
theorem dL_law_1340 : decode cL_law 1340 = .ok (.aload_n 0, 1) := by decide +kernel
theorem dL_law_1341 : decode cL_law 1341 = .ok (.iload_n 3, 1) := by decide +kernel
theorem dL_law_1342 : decode cL_law 1342 = .ok (.iconst 2, 1) := by decide +kernel
theorem dL_law_1343 : decode cL_law 1343 = .ok (.iadd, 1) := by decide +kernel
theorem dL_law_1344 : decode cL_law 1344 = .ok (.iaload, 1) := by decide +kernel
theorem dL_law_1345 : decode cL_law 1345 = .ok (.aload_n 0, 1) := by decide +kernel
theorem dL_law_1346 : decode cL_law 1346 = .ok (.iload_n 3, 1) := by decide +kernel
theorem dL_law_1347 : decode cL_law 1347 = .ok (.iconst 3, 1) := by decide +kernel
theorem dL_law_1348 : decode cL_law 1348 = .ok (.iadd, 1) := by decide +kernel
theorem dL_law_1349 : decode cL_law 1349 = .ok (.iaload, 1) := by decide +kernel
theorem dL_law_1350 : decode cL_law 1350 = .ok (.aload_n 0, 1) := by decide +kernel
theorem dL_law_1351 : decode cL_law 1351 = .ok (.iload_n 3, 1) := by decide +kernel
theorem dL_law_1352 : decode cL_law 1352 = .ok (.iconst 4, 1) := by decide +kernel
theorem dL_law_1353 : decode cL_law 1353 = .ok (.iadd, 1) := by decide +kernel
theorem dL_law_1354 : decode cL_law 1354 = .ok (.iaload, 1) := by decide +kernel
theorem dL_law_1355 : decode cL_law 1355 = .ok (.aload_n 0, 1) := by decide +kernel
theorem dL_law_1356 : decode cL_law 1356 = .ok (.iload_n 3, 1) := by decide +kernel
theorem dL_law_1357 : decode cL_law 1357 = .ok (.iconst 5, 1) := by decide +kernel
theorem dL_law_1358 : decode cL_law 1358 = .ok (.iadd, 1) := by decide +kernel
theorem dL_law_1359 : decode cL_law 1359 = .ok (.iaload, 1) := by decide +kernel
theorem dL_law_1360 : decode cL_law 1360 = .ok (.invokevirtual 171, 3) := by decide +kernel
theorem dL_law_1363 : decode cL_law 1363 = .ok (.if_icmp .eq 5, 3) := by decide +kernel
theorem dL_law_1366 : decode cL_law 1366 = .ok (.iconst 0, 1) := by decide +kernel
theorem dL_law_1367 : decode cL_law 1367 = .ok (.ireturn, 1) := by decide +kernel
theorem dL_law_1368 : decode cL_law 1368 = .ok (.iinc 3 6, 3) := by decide +kernel
theorem dL_law_1371 : decode cL_law 1371 = .ok (.goto (-1353), 3) := by decide +kernel
theorem dL_law_1374 : decode cL_law 1374 = .ok (.iconst 1, 1) := by decide +kernel
theorem dL_law_1375 : decode cL_law 1375 = .ok (.ireturn, 1) := by decide +kernel
end
section
/-! THE LOGIC: a method's run over a flat memory; part 1: words, shapes, states, what a heap holds -/
def rn_WS : List Cond := lw_tbl.filter goodWord
theorem rn_ws {w : Cond} (i : Nat) (h : lw_tbl[i]? = some w) (hg : goodWord w = true) : w ∈ rn_WS := List.mem_filter.mpr ⟨List.mem_of_getElem? h, hg⟩
theorem rn_wg {w : Cond} (h : w ∈ rn_WS) : (w.onTables && w.keeps) = true ∨ ∃ ty, w = .arrayClass ty := good_of_word (List.mem_filter.mp h).2
theorem rn_pos {ws : List Cond} (ps : List Nat) (h : ws = ps.filterMap (fun i => lw_tbl[i]?)) (hg : ws.all goodWord = true) : ∀ w ∈ ws, w ∈ rn_WS := by
  intro w hw
  have h1 := List.all_eq_true.mp hg w hw
  rw [h] at hw
  obtain ⟨i, -, hi⟩ := List.mem_filterMap.mp hw
  exact rn_ws i hi h1
abbrev rn_M : Type := MethodName × ByteArray × Nat × Option FieldType
def rn_mw (M : rn_M) : List Cond := Cond.code M.1 M.2.1 M.2.2.1 M.2.2.2 :: rn_WS
theorem rn_gi {M : rn_M} {pre : List Cond} (hc : Cond.code M.1 M.2.1 M.2.2.1 M.2.2.2 ∈ rn_WS) (hp : ∀ w ∈ pre, w ∈ rn_WS) : GoodIn rn_WS (pre ++ rn_mw M) := by
  have key : ∀ w ∈ pre ++ rn_mw M, w ∈ rn_WS := by
    intro w hw
    rcases List.mem_append.mp hw with h | h
    · exact hp w h
    · rcases List.mem_cons.mp h with rfl | h
      · exact hc
      · exact h
  exact fun w hw => ⟨key w hw, rn_wg (key w hw)⟩
/-! the classes' fields -/
def rn_ty (ci : Nat) : Nat → FieldType := match ci with
  | 0 => tyX0 | 1 => tyX1 | 2 => tyX2 | 3 => tyX3 | 4 => tyX4 | 5 => tyX5 | 6 => tyX6 | 7 => tyX7 | 8 => tyX8 | _ => tyX9
def rn_N (ci : Nat) : Nat := match ci with
  | 0 => 5 | 1 => 4 | 2 => 5 | 3 => 15 | 4 => 7 | 5 => 4 | 6 => 4 | 7 => 3 | 8 => 11 | _ => 93
def rn_ks (ty : FieldType) : Nat := match ty with
  | .object _ => 2 | .array _ => 2 | .long => 1 | _ => 0
def rn_fk (ci k : Nat) : Nat := rn_ks (rn_ty ci k)
theorem rn_cl {P : Nat → vw_C → Prop} (h0 : P 0 (RX0, TX0, 5)) (h1 : P 1 (RX1, TX1, 4)) (h2 : P 2 (RX2, TX2, 5)) (h3 : P 3 (RX3, TX3, 15)) (h4 : P 4 (RX4, TX4, 7)) (h5 : P 5 (RX5, TX5, 4)) (h6 : P 6 (RX6, TX6, 4)) (h7 : P 7 (RX7, TX7, 3)) (h8 : P 8 (RX8, TX8, 11)) (h9 : P 9 (RX9, TX9, 93)) : ∀ (ci : Nat) (q : vw_C), vwCl[ci]? = some q → P ci q := by
  intro ci q h
  match ci, h with
  | 0, h => cases h; exact h0
  | 1, h => cases h; exact h1
  | 2, h => cases h; exact h2
  | 3, h => cases h; exact h3
  | 4, h => cases h; exact h4
  | 5, h => cases h; exact h5
  | 6, h => cases h; exact h6
  | 7, h => cases h; exact h7
  | 8, h => cases h; exact h8
  | 9, h => cases h; exact h9
  | n + 10, h => exact absurd (List.getElem?_eq_some_iff.mp h).1 (by simp)
theorem rn_tyok : ∀ (ci : Nat) (q : vw_C), vwCl[ci]? = some q → ∀ k, k < q.2.2 → parseFieldDescriptor (q.2.1 k).2.2.1 = some (rn_ty ci k) := rn_cl (P := fun ci q => ∀ k, k < q.2.2 → parseFieldDescriptor (q.2.1 k).2.2.1 = some (rn_ty ci k)) tyX0_ok tyX1_ok tyX2_ok tyX3_ok tyX4_ok tyX5_ok tyX6_ok tyX7_ok tyX8_ok tyX9_ok
theorem rn_nm : ∀ (ci : Nat) (q : vw_C), vwCl[ci]? = some q → ∀ a, a < q.2.2 → ∀ b, b < q.2.2 → a ≠ b → (q.2.1 a).2.1 ≠ (q.2.1 b).2.1 := rn_cl (P := fun ci q => ∀ a, a < q.2.2 → ∀ b, b < q.2.2 → a ≠ b → (q.2.1 a).2.1 ≠ (q.2.1 b).2.1) nmX0 nmX1 nmX2 nmX3 nmX4 nmX5 nmX6 nmX7 nmX8 nmX9
theorem rn_Nok : ∀ (ci : Nat) (q : vw_C), vwCl[ci]? = some q → q.2.2 = rn_N ci := rn_cl (P := fun ci q => q.2.2 = rn_N ci) rfl rfl rfl rfl rfl rfl rfl rfl rfl rfl
set_option maxRecDepth 20000 in
theorem rn_in0 : ∀ w ∈ u_ws RX0 TX0 5, w ∈ rn_WS := rn_pos [337, 339, 341, 343, 345] (by decide +kernel) (by decide +kernel)
set_option maxRecDepth 20000 in
theorem rn_in1 : ∀ w ∈ u_ws RX1 TX1 4, w ∈ rn_WS := rn_pos [134, 136, 138, 140] (by decide +kernel) (by decide +kernel)
set_option maxRecDepth 20000 in
theorem rn_in2 : ∀ w ∈ u_ws RX2 TX2 5, w ∈ rn_WS := rn_pos [288, 290, 292, 294, 296] (by decide +kernel) (by decide +kernel)
set_option maxRecDepth 20000 in
theorem rn_in3 : ∀ w ∈ u_ws RX3 TX3 15, w ∈ rn_WS := rn_pos [215, 217, 219, 221, 223, 225, 227, 229, 231, 233, 235, 237, 239, 241, 243] (by decide +kernel) (by decide +kernel)
set_option maxRecDepth 20000 in
theorem rn_in4 : ∀ w ∈ u_ws RX4 TX4 7, w ∈ rn_WS := rn_pos [172, 174, 176, 178, 180, 182, 184] (by decide +kernel) (by decide +kernel)
set_option maxRecDepth 20000 in
theorem rn_in5 : ∀ w ∈ u_ws RX5 TX5 4, w ∈ rn_WS := rn_pos [312, 314, 316, 318] (by decide +kernel) (by decide +kernel)
set_option maxRecDepth 20000 in
theorem rn_in6 : ∀ w ∈ u_ws RX6 TX6 4, w ∈ rn_WS := rn_pos [260, 262, 264, 266] (by decide +kernel) (by decide +kernel)
set_option maxRecDepth 20000 in
theorem rn_in7 : ∀ w ∈ u_ws RX7 TX7 3, w ∈ rn_WS := rn_pos [362, 364, 366] (by decide +kernel) (by decide +kernel)
set_option maxRecDepth 20000 in
theorem rn_in8 : ∀ w ∈ u_ws RX8 TX8 11, w ∈ rn_WS := rn_pos [381, 383, 385, 387, 389, 391, 393, 395, 397, 399, 401] (by decide +kernel) (by decide +kernel)
set_option maxRecDepth 20000 in
theorem rn_in9 : ∀ w ∈ u_ws RX9 TX9 93, w ∈ rn_WS := rn_pos [1074, 1076, 1078, 1080, 1082, 1084, 1086, 1088, 1090, 1092, 1094, 1096, 1098, 1100, 1102, 1104, 1106, 1108, 1110, 1112, 1114, 1116, 1118, 1120, 1122, 1124, 1126, 1128, 1130, 1132, 1134, 1136, 1138, 1140, 1142, 1144, 1146, 1148, 1150, 1152, 1154, 1156, 1158, 1160, 1162, 1164, 1166, 1168, 1170, 1172, 1174, 1176, 1178, 1180, 1182, 1184, 1186, 1188, 1190, 1192, 1194, 1196, 1198, 1200, 1202, 1204, 1206, 1208, 1210, 1212, 1214, 1216, 1218, 1220, 1222, 1224, 1226, 1228, 1230, 1232, 1234, 1236, 1238, 1240, 1242, 1244, 1246, 1248, 1250, 1252, 1254, 1256, 1258] (by decide +kernel) (by decide +kernel)
theorem rn_in : ∀ (ci : Nat) (q : vw_C), vwCl[ci]? = some q → ∀ w ∈ u_ws q.1 q.2.1 q.2.2, w ∈ rn_WS := rn_cl (P := fun ci q => ∀ w ∈ u_ws q.1 q.2.1 q.2.2, w ∈ rn_WS) rn_in0 rn_in1 rn_in2 rn_in3 rn_in4 rn_in5 rn_in6 rn_in7 rn_in8 rn_in9
/-! shapes: of each cell its class's number, or 10 and its elements' sort (0 int, 1 long, 2 byte, 3 boolean, 4 Person, 5 Dusk, 6 Tape), and its length -/
def rn_SHL : List (Nat × Nat) := [(99, 0), (8, 0), (3, 0), (10, 6), (14, 6), (10, 6), (10, 6), (1, 0), (10, 100), (4, 0), (10, 4), (4, 0), (10, 4), (4, 0), (10, 4), (4, 0), (10, 4), (4, 0), (10, 4), (4, 0), (10, 4), (3, 0), (10, 6), (14, 6), (10, 6), (10, 6), (1, 0), (10, 100), (4, 0), (10, 4), (4, 0), (10, 4), (4, 0), (10, 4), (4, 0), (10, 4), (4, 0), (10, 4), (4, 0), (10, 4), (6, 0), (10, 5), (10, 5), (10, 5), (6, 0), (10, 10), (10, 10), (10, 10), (6, 0), (10, 8), (10, 8), (10, 8), (2, 0), (3, 0), (10, 6), (14, 6), (10, 6), (10, 6), (1, 0), (10, 100), (4, 0), (10, 4), (4, 0), (10, 4), (4, 0), (10, 4), (4, 0), (10, 4), (4, 0), (10, 4), (4, 0), (10, 4), (6, 0), (10, 5), (10, 5), (10, 5), (6, 0), (10, 10), (10, 10), (10, 10), (6, 0), (10, 8), (10, 8), (10, 8), (5, 0), (12, 100), (1, 0), (10, 100), (15, 6), (0, 0), (10, 20), (16, 6), (1, 0), (10, 100), (1, 0), (10, 100), (1, 0), (10, 100), (1, 0), (10, 100), (1, 0), (10, 100), (1, 0), (10, 100), (7, 0), (11, 60), (7, 0), (11, 60), (7, 0), (11, 60), (7, 0), (11, 60), (7, 0), (11, 60), (7, 0), (11, 60), (9, 0), (10, 6), (10, 6), (10, 6), (10, 6), (10, 6), (10, 24), (10, 6), (10, 100), (10, 6), (10, 60), (10, 60), (10, 60), (10, 60), (10, 600), (10, 101), (10, 16), (13, 100), (10, 6), (10, 6), (10, 6), (10, 6), (10, 5), (10, 5), (13, 5), (10, 10), (10, 10), (10, 8), (10, 8), (10, 6), (10, 6), (10, 6), (10, 6), (10, 6), (10, 6), (10, 24), (10, 5), (10, 5), (10, 10), (10, 10), (10, 8), (10, 8), (13, 5), (10, 20), (10, 6), (10, 6), (11, 360), (11, 60)]
def SH (a : Nat) : Nat × Nat := rn_SHL.getD a (99, 0)
theorem SH_lt {a : Nat} (h : (SH a).1 < 99) : 1 ≤ a ∧ a < 164 := by
  have hl : rn_SHL.length = 164 := rfl
  unfold SH at h
  by_cases ha : a < 164
  · refine ⟨?_, ha⟩
    rcases Nat.eq_zero_or_pos a with rfl | h0
    · exact absurd h (by decide)
    · exact h0
  · rw [List.getD_eq_getElem?_getD, List.getElem?_eq_none (by omega)] at h
    exact absurd h (by decide)
/-! the launch, the base, classes and slots, array classes, where what was there before lies, the formatter, the script -/
abbrev rn_G : Type := Launch × Nat × (Nat → ClassId) × (Nat → Nat → Nat) × (Nat → ClassId) × (Nat → Nat) × Option Nat × Nat × (Nat → Int32)
abbrev rn_l (G : rn_G) : Launch := G.1
abbrev rn_b (G : rn_G) : Nat := G.2.1
abbrev rn_D (G : rn_G) : va_G := (G.2.2.1, G.2.2.2.1)
abbrev rn_cA (G : rn_G) : Nat → ClassId := G.2.2.2.2.1
abbrev rn_pa (G : rn_G) : Nat → Nat := G.2.2.2.2.2.1
abbrev rn_fo (G : rn_G) : Option Nat := G.2.2.2.2.2.2.1
abbrev rn_Ln (G : rn_G) : Nat := G.2.2.2.2.2.2.2.1
abbrev rn_xs (G : rn_G) : Nat → Int32 := G.2.2.2.2.2.2.2.2
def rn_o (G : rn_G) (r : Nat) : Option Nat := if r = 0 then none else if r < 1000 then some (rn_b G + r) else if r = 1030 then rn_fo G else some (rn_pa G (r - 1000))
def rn_cv (G : rn_G) (v : Value) : Value := match v with
  | .ref r => va_rf (rn_o G r)
  | v => v
theorem rn_cv_near {G : rn_G} {r : Nat} (h1 : 1 ≤ r) (h2 : r < 1000) : rn_cv G (.ref r) = .ref (rn_b G + r) := by
  simp [rn_cv, rn_o, va_rf, h2, Nat.ne_of_gt h1]
theorem rn_cv_far {G : rn_G} {r : Nat} (h1 : r ≠ 30) : rn_cv G (.ref (1000 + r)) = .ref (rn_pa G r) := by
  have h2 : ¬ (1000 + r < 1000) := by omega
  have h3 : ¬ (1000 + r = 1030) := by omega
  have h4 : ¬ (1000 + r = 0) := by omega
  simp only [rn_cv, rn_o, if_neg h2, if_neg h3, if_neg h4, Nat.add_sub_cancel_left]
  rfl
theorem rn_cv_cat (G : rn_G) (v : Value) : (rn_cv G v).category = v.category := by
  cases v with
  | ref r =>
    show (va_rf (rn_o G r)).category = 1
    cases rn_o G r <;> rfl
  | _ => rfl
abbrev rn_S : Type := (Nat → Nat → Int32) × (Nat → Nat → Int64) × (Nat → Nat → Nat) × Nat
def rn_fv (G : rn_G) (σ : rn_S) (a ci k : Nat) : Value := if rn_fk ci k = 2 then va_rf (rn_o G (σ.2.2.1 a k)) else if rn_fk ci k = 1 then .long (σ.2.1 a k) else .int (σ.1 a k)
def rn_e (G : rn_G) (σ : rn_S) (a : Nat) : va_E := if (SH a).1 < 10 then .inr ((SH a).1, (List.range (rn_N (SH a).1)).map (rn_fv G σ a (SH a).1)) else .inl (rn_cA G ((SH a).1 - 10), (SH a).2, if (SH a).1 = 11 then .inr (.inl (σ.2.1 a)) else if 14 ≤ (SH a).1 then .inr (.inr (.inr (.inr (fun k => rn_o G (σ.2.2.1 a k))))) else .inl (σ.1 a))
def rn_W (G : rn_G) (σ : rn_S) : va_W := (List.range (σ.2.2.2 - 1)).map (fun j => (rn_b G + (j + 1), rn_e G σ (j + 1)))
def rn_tys (G : rn_G) : List (ClassId × FieldType) := [(rn_cA G 0, .int), (rn_cA G 1, .long), (rn_cA G 2, .byte), (rn_cA G 3, .boolean), (rn_cA G 4, .object RX4), (rn_cA G 5, .object RX1), (rn_cA G 6, .object RX7)]
def rn_A (G : rn_G) : Nat → Prop := fun q => rn_b G < q
theorem rn_Wi {G : rn_G} {σ : rn_S} {i : Nat} {q : Nat × va_E} (h : (rn_W G σ)[i]? = some q) : i < σ.2.2.2 - 1 ∧ q = (rn_b G + (i + 1), rn_e G σ (i + 1)) := by
  unfold rn_W at h
  rw [List.getElem?_map] at h
  by_cases hi : i < σ.2.2.2 - 1
  · rw [List.getElem?_range hi] at h
    cases h
    exact ⟨hi, rfl⟩
  · rw [List.getElem?_eq_none (by rw [List.length_range]; omega)] at h
    cases h
theorem rn_Wg {G : rn_G} {σ : rn_S} {a : Nat} (h1 : 1 ≤ a) (h2 : a < σ.2.2.2) : (rn_W G σ)[a - 1]? = some (rn_b G + a, rn_e G σ a) := by
  unfold rn_W
  rw [List.getElem?_map, List.getElem?_range (by omega)]
  show some (rn_b G + (a - 1 + 1), rn_e G σ (a - 1 + 1)) = _
  rw [Nat.sub_add_cancel h1]
theorem rn_WD (G : rn_G) (σ : rn_S) : va_D (rn_A G) (rn_W G σ) := by
  refine ⟨fun i j p q hi hj hpq => ?_, fun k q hk => ?_⟩
  · rw [(rn_Wi hi).2, (rn_Wi hj).2] at hpq
    have h3 : rn_b G + (i + 1) = rn_b G + (j + 1) := hpq
    omega
  · rw [(rn_Wi hk).2]
    show rn_b G < rn_b G + (k + 1)
    omega
theorem rn_Wset {G : rn_G} {σ σ' : rn_S} {a : Nat} {e : va_E} (h1 : 1 ≤ a) (h2 : a < σ.2.2.2) (hn : σ'.2.2.2 = σ.2.2.2) (ho : ∀ b : Nat, b ≠ a → rn_e G σ' b = rn_e G σ b) (he : rn_e G σ' a = e) : (rn_W G σ).set (a - 1) (rn_b G + a, e) = rn_W G σ' := by
  apply List.ext_getElem?
  intro i
  by_cases hi : i = a - 1
  · subst hi
    rw [List.getElem?_set_self (by unfold rn_W; rw [List.length_map, List.length_range]; omega), rn_Wg h1 (by rw [hn]; exact h2), he]
  · rw [List.getElem?_set_ne (Ne.symm hi)]
    unfold rn_W
    rw [List.getElem?_map, List.getElem?_map, hn]
    by_cases hl : i < σ.2.2.2 - 1
    · rw [List.getElem?_range hl]
      show some (_, _) = some (_, _)
      rw [ho (i + 1) (by omega)]
    · rw [List.getElem?_eq_none (by rw [List.length_range]; omega)]
      rfl
theorem rn_Wpush {G : rn_G} {σ σ' : rn_S} {e : va_E} (h1 : 1 ≤ σ.2.2.2) (hn : σ'.2.2.2 = σ.2.2.2 + 1) (ho : ∀ b : Nat, b < σ.2.2.2 → rn_e G σ' b = rn_e G σ b) (he : rn_e G σ' σ.2.2.2 = e) : rn_W G σ ++ [(rn_b G + σ.2.2.2, e)] = rn_W G σ' := by
  apply List.ext_getElem?
  intro i
  have hlen : (rn_W G σ).length = σ.2.2.2 - 1 := by unfold rn_W; rw [List.length_map, List.length_range]
  by_cases hi : i < σ.2.2.2 - 1
  · rw [List.getElem?_append_left (by rw [hlen]; exact hi)]
    have g1 := rn_Wg (G := G) (σ := σ) (a := i + 1) (by omega) (by omega)
    have g2 := rn_Wg (G := G) (σ := σ') (a := i + 1) (by omega) (by omega)
    rw [Nat.add_sub_cancel] at g1 g2
    rw [g1, g2, ho (i + 1) (by omega)]
  · rw [List.getElem?_append_right (by rw [hlen]; omega), hlen]
    by_cases hj : i = σ.2.2.2 - 1
    · subst hj
      have g2 := rn_Wg (G := G) (σ := σ') (a := σ.2.2.2) h1 (by omega)
      rw [g2, he, Nat.sub_self]
      rfl
    · rw [List.getElem?_eq_none (by simp only [List.length_singleton]; omega), List.getElem?_eq_none]
      unfold rn_W
      rw [List.length_map, List.length_range]
      omega
/-- what a heap holds -/
def rn_R (G : rn_G) (σ : rn_S) (s : State) (H : Heap) (locs : List Loc) : Prop := va_P (rn_D G) vwCl (rn_W G σ) H ∧ (σ.2.2.2 < 164 → H.size = rn_b G + σ.2.2.2) ∧ 1 ≤ σ.2.2.2 ∧ va_S (rn_A G) s.heap H locs
/-! what was there before -/
def rn_ka (j : Nat) : Int32 := match j with
  | 0 => -1 | 1 => 0 | 2 => 0 | 3 => 0 | 4 => 1 | 5 => 2 | _ => 3
def rn_bo (j : Nat) : Int32 := match j with
  | 0 => 10 | 1 => 11 | 2 => 12 | 3 => 0 | 4 => 20 | 5 => 0 | 6 => 30 | 7 => 0 | 8 => 0 | 9 => 0 | 10 => 0 | 11 => 40 | 12 => 50 | 13 => 51 | 14 => 0 | 15 => 0 | 16 => 0 | 17 => 60 | 18 => 71 | 19 => 70 | _ => 0
def rn_pl (G : rn_G) (i : Nat) : Nat := match i with
  | 0 => rn_Ln G | 1 => 7 | _ => 21
def rn_pf (G : rn_G) (i : Nat) : Nat → Int32 := match i with
  | 0 => rn_xs G | 1 => rn_ka | _ => rn_bo
def rn_st : List (String × String × String × Value) := [("LockedAtDusk", "KIND_ABOVE", "[I", .ref 1001), ("LockedAtDusk", "BODIES", "[I", .ref 1002), ("java/lang/String", "COMPACT_STRINGS", "Z", .int 1), ("jdk/internal/util/Preconditions", "SIOOBE_FORMATTER", "Ljava/util/function/BiFunction;", .ref 1030)]
def rn_isN : Cond → Bool
  | .fieldLinkNest .. => true
  | .methodLinkNest .. => true
  | _ => false
def rn_NW : List Cond := lw_tbl.filter rn_isN
/-- the six texts: the pool's number, the text, its length, its bytes -/
def rn_sk (i : Nat) : Nat := match i with
  | 0 => 43 | 1 => 45 | 2 => 47 | 3 => 49 | 4 => 102 | _ => 108
def rn_sx (i : Nat) : String := match i with
  | 0 => "keen " | 1 => "deaf " | 2 => "bell " | 3 => "pace " | 4 => "pkvwfm" | _ => "<=>"
def rn_sl : List Nat := [5, 5, 5, 5, 6, 3]
def rn_sb : List (List Int32) := [[107, 101, 101, 110, 32], [100, 101, 97, 102, 32], [98, 101, 108, 108, 32], [112, 97, 99, 101, 32], [112, 107, 118, 119, 102, 109], [60, 61, 62]]
def rn_E (G : rn_G) (U : State) (H : Heap) : Prop :=
  (∀ q ∈ rn_st, va_Z q.1 q.2.1 q.2.2.1 (rn_cv G q.2.2.2) (rn_A G) U H) ∧ (∀ i, i < 3 → va_T .int (rn_pa G i) (rn_pl G i) (fun j => .int (rn_pf G i j)) (rn_A G) U H) ∧
  (∀ w ∈ rn_NW, va_Nw w U) ∧ (∀ i, i < 6 → vk_R RX5 (rn_sk i) (rn_sx i) (rn_pa G (10 + i)) U) ∧ vk_S 6 rn_sl rn_sb (fun i => rn_pa G (10 + i)) (fun i => rn_pa G (20 + i)) (rn_A G) U H ∧ va_AO RX4 U ∧ va_AO RX1 U ∧ va_AO RX7 U
theorem rn_NW_warm {w : Cond} (hw : w ∈ rn_NW) {s U : State} (hW : s.WarmedH U.vm) (h : va_Nw w s) : va_Nw w U := by
  have h1 := (List.mem_filter.mp hw).2
  cases w <;> first | exact va_Nw.warmF hW h | exact va_Nw.warmM hW h | (simp [rn_isN] at h1; done)
theorem rn_NW_same {w : Cond} (hw : w ∈ rn_NW) {s U : State} (hW : s.vm = U.vm) (h : va_Nw w s) : va_Nw w U := by
  have h1 := (List.mem_filter.mp hw).2
  cases w <;> first | (simp [rn_isN] at h1; done) | exact va_Nw.same rfl hW h
theorem rn_E.down {G : rn_G} {s U : State} {H : Heap} {locs : List Loc} (h : rn_E G s s.heap) (hS : va_S (rn_A G) s.heap H locs) (hU : U.heap = H) (hW : s.WarmedH U.vm) : rn_E G U U.heap := by
  obtain ⟨h1, h2, h3, h4, h5, h6, h7, h8⟩ := h
  rw [hU]
  have ha := hW.alike
  exact ⟨fun q hq => ((h1 q hq).moved ha).kept hS.2.1, fun i hi => ((h2 i hi).moved ha).kept hS.2.1, fun w hw => rn_NW_warm hw hW (h3 w hw), fun i hi => (h4 i hi).warm hW, (h5.moved ha).kept hS.2.1, va_AO.moved ha h6, va_AO.moved ha h7, va_AO.moved ha h8⟩
theorem rn_E.same {G : rn_G} {s U : State} {H : Heap} (hv : s.vm = U.vm) (h : rn_E G s H) : rn_E G U H := by
  obtain ⟨h1, h2, h3, h4, h5, h6, h7, h8⟩ := h
  have ha : s.vm.Alike U.vm := by rw [hv]; exact Vm.Alike.refl _
  exact ⟨fun q hq => (h1 q hq).moved ha, fun i hi => (h2 i hi).moved ha, fun w hw => rn_NW_same hw hv (h3 w hw), fun i hi => (h4 i hi).same hv.symm, h5.moved ha, va_AO.moved ha h6, va_AO.moved ha h7, va_AO.moved ha h8⟩
/-! locals: '.null' stands where nothing is known -/
def rn_pv (v : Option Value) (i : Nat) (G : rn_G) : Option (Nat × Value) := match v with
  | none => none
  | some .null => none
  | some v => some (i, rn_cv G v)
def rn_ll (G : rn_G) (ls : List Value) : List (Nat × Value) := (List.range ls.length).filterMap (fun i => rn_pv ls[i]? i G)
theorem rn_ll_mem {G : rn_G} {ls : List Value} {q : Nat × Value} : q ∈ rn_ll G ls ↔ ∃ v, ls[q.1]? = some v ∧ v ≠ .null ∧ q.2 = rn_cv G v := by
  unfold rn_ll
  rw [List.mem_filterMap]
  constructor
  · rintro ⟨i, hi, h⟩
    cases hv : ls[i]? with
    | none => rw [hv] at h; cases h
    | some v =>
      rw [hv] at h
      cases v <;> first | (cases h; done) | (cases h; exact ⟨_, hv, (fun e => by cases e), rfl⟩)
  · rintro ⟨v, h1, h2, h3⟩
    refine ⟨q.1, List.mem_range.mpr (List.getElem?_eq_some_iff.mp h1).1, ?_⟩
    rw [h1]
    obtain ⟨q1, q2⟩ := q
    dsimp only at h3 ⊢
    subst h3
    cases v <;> first | exact absurd rfl h2 | rfl
def rn_L (G : rn_G) (nL : Nat) (ls : List Value) (lsA : Array Slot) : Prop := ls.length = nL ∧ lv_has lsA nL (rn_ll G ls)
theorem rn_L.at {G : rn_G} {nL : Nat} {ls : List Value} {lsA : Array Slot} (h : rn_L G nL ls lsA) {i : Nat} {v : Value} (hi : ls[i]? = some v) (hv : v ≠ .null) : lsA[i]? = some (.val (rn_cv G v)) := h.2.2.2 (i, rn_cv G v) (rn_ll_mem.mpr ⟨v, hi, hv, rfl⟩)
def rn_pb (ls : List Value) (i : Nat) : Prop := ∀ (j : Nat) (w : Value), j + 1 = i → ls[j]? = some w → w.category = 1
theorem rn_L.st {G : rn_G} {nL : Nat} {ls : List Value} {lsA ls' : Array Slot} {i : Nat} {v : Value} (h : rn_L G nL ls lsA) (hi : i < ls.length) (hp : rn_pb ls i) (hc : v ≠ .null) (h' : lv_has ls' nL ((i, rn_cv G v) :: (rn_ll G ls).filter (fun q => !(q.1 == i) && !(q.1 + 1 == i && q.2.category == 2)))) : rn_L G nL (ls.set i v) ls' := by
  refine ⟨by rw [List.length_set]; exact h.1, h'.1, h'.2.1, fun q hq => ?_⟩
  obtain ⟨w, h1, h2, h3⟩ := rn_ll_mem.mp hq
  apply h'.2.2 q
  by_cases hqi : q.1 = i
  · rw [hqi, List.getElem?_set_self hi] at h1
    cases h1
    refine List.mem_cons.mpr (Or.inl ?_)
    obtain ⟨q1, q2⟩ := q
    dsimp only at hqi h3
    rw [hqi, h3]
  · rw [List.getElem?_set_ne (Ne.symm hqi)] at h1
    refine List.mem_cons_of_mem _ (List.mem_filter.mpr ⟨rn_ll_mem.mpr ⟨w, h1, h2, h3⟩, ?_⟩)
    rw [h3, rn_cv_cat]
    by_cases hj : q.1 + 1 = i
    · rw [hp q.1 w hj h1]
      simp [hqi]
    · simp [hqi, hj]
/-- the locals with which a method begins -/
def rn_en1 (as : List Value) : List Value := as.flatMap (fun v => if v.category = 2 then [v, .null] else [v])
def rn_en (nL : Nat) (as : List Value) : List Value := rn_en1 as ++ List.replicate (nL - (rn_en1 as).length) .null
theorem rn_en1_len (G : rn_G) : ∀ as : List Value, (lg_sl (as.map (rn_cv G))).length = (rn_en1 as).length
  | [] => rfl
  | v :: as => by
    have ih := rn_en1_len G as
    unfold lg_sl rn_en1 at ih ⊢
    rw [List.map_cons, List.flatMap_cons, List.flatMap_cons, List.length_append, List.length_append, ih, rn_cv_cat]
    by_cases hv : v.category = 2
    · simp [hv]
    · simp [hv]
theorem rn_en_args (G : rn_G) : ∀ (as : List Value) (o i : Nat) (v : Value), (rn_en1 as)[i]? = some v → v ≠ .null → (o + i, rn_cv G v) ∈ lv_args o (as.map (rn_cv G))
  | [], o, i, v, h, hv => by simp [rn_en1] at h
  | w :: as, o, i, v, h, hv => by
    have ih := rn_en_args G as
    rw [List.map_cons]
    unfold rn_en1 at h ih
    rw [List.flatMap_cons] at h
    by_cases hw : w.category = 2
    · rw [if_pos hw] at h
      match i, h with
      | 0, h =>
        cases h
        exact List.mem_cons_self
      | 1, h =>
        cases h
        exact absurd rfl hv
      | i + 2, h =>
        have h2 := ih (o + 2) i v h hv
        refine List.mem_cons_of_mem _ ?_
        rw [rn_cv_cat, if_pos hw, show o + (i + 2) = o + 2 + i by omega]
        exact h2
    · rw [if_neg hw] at h
      match i, h with
      | 0, h =>
        cases h
        exact List.mem_cons_self
      | i + 1, h =>
        have h2 := ih (o + 1) i v h hv
        refine List.mem_cons_of_mem _ ?_
        rw [rn_cv_cat, if_neg hw, show o + (i + 1) = o + 1 + i by omega]
        exact h2
theorem rn_en_L (G : rn_G) {nL : Nat} {as : List Value} (h : (rn_en1 as).length ≤ nL) {lsA : Array Slot} (hl : lv_has lsA nL (lv_args 0 (as.map (rn_cv G)))) : rn_L G nL (rn_en nL as) lsA := by
  refine ⟨by unfold rn_en; rw [List.length_append, List.length_replicate]; omega, hl.1, hl.2.1, fun q hq => hl.2.2 q ?_⟩
  obtain ⟨v, h1, h2, h3⟩ := rn_ll_mem.mp hq
  unfold rn_en at h1
  by_cases hi : q.1 < (rn_en1 as).length
  · rw [List.getElem?_append_left hi] at h1
    have h4 := rn_en_args G as 0 q.1 v h1 h2
    rw [Nat.zero_add] at h4
    obtain ⟨q1, q2⟩ := q
    dsimp only at h3 h4
    rw [h3]
    exact h4
  · rw [List.getElem?_append_right (by omega)] at h1
    have := List.eq_of_mem_replicate (List.mem_of_getElem? h1)
    exact absurd this h2
end
