section
-- ===== PART A: goes FIRST, ahead of the names: the tables' words, and 'selects' of the private methods out of them =====
/-- a private method of a class that the tables say can be made, by its rows of tables_1 -/
def lw_okq (q : MethodName × Nat) : Prop := (q.1.cls ≠ "java/lang/invoke/MethodHandle" ∧ q.1.cls ≠ "java/lang/invoke/VarHandle") ∧ Cond.instantiable q.1.cls q.2 ∈ tables_1 ∧ Cond.privateMethod q.1 ∈ tables_1 ∧ Cond.instanceMethod q.1 ∈ tables_1
theorem lw_p0 : lw_okq (⟨"LockedAtDusk$Reader", "readClause", "()Z"⟩, 4) := ⟨⟨by decide +kernel, by decide +kernel⟩, List.mem_of_getElem? (i := 217) (by decide +kernel), List.mem_of_getElem? (i := 459) (by decide +kernel), List.mem_of_getElem? (i := 460) (by decide +kernel)⟩
theorem lw_p1 : lw_okq (⟨"LockedAtDusk$Reader", "isNext", "(C)Z"⟩, 4) := ⟨⟨by decide +kernel, by decide +kernel⟩, List.mem_of_getElem? (i := 217) (by decide +kernel), List.mem_of_getElem? (i := 463) (by decide +kernel), List.mem_of_getElem? (i := 464) (by decide +kernel)⟩
theorem lw_p2 : lw_okq (⟨"LockedAtDusk$Reader", "readWord", "(Ljava/lang/String;)Z"⟩, 4) := ⟨⟨by decide +kernel, by decide +kernel⟩, List.mem_of_getElem? (i := 217) (by decide +kernel), List.mem_of_getElem? (i := 471) (by decide +kernel), List.mem_of_getElem? (i := 472) (by decide +kernel)⟩
theorem lw_p3 : lw_okq (⟨"LockedAtDusk$Reader", "skip", "(C)Z"⟩, 4) := ⟨⟨by decide +kernel, by decide +kernel⟩, List.mem_of_getElem? (i := 217) (by decide +kernel), List.mem_of_getElem? (i := 523) (by decide +kernel), List.mem_of_getElem? (i := 524) (by decide +kernel)⟩
theorem lw_p4 : lw_okq (⟨"LockedAtDusk$Reader", "readNumber", "()I"⟩, 4) := ⟨⟨by decide +kernel, by decide +kernel⟩, List.mem_of_getElem? (i := 217) (by decide +kernel), List.mem_of_getElem? (i := 527) (by decide +kernel), List.mem_of_getElem? (i := 528) (by decide +kernel)⟩
theorem lw_p5 : lw_okq (⟨"LockedAtDusk$Reader", "readEither", "(I)Z"⟩, 4) := ⟨⟨by decide +kernel, by decide +kernel⟩, List.mem_of_getElem? (i := 217) (by decide +kernel), List.mem_of_getElem? (i := 535) (by decide +kernel), List.mem_of_getElem? (i := 536) (by decide +kernel)⟩
theorem lw_p6 : lw_okq (⟨"LockedAtDusk$Reader", "readBoth", "(I)Z"⟩, 4) := ⟨⟨by decide +kernel, by decide +kernel⟩, List.mem_of_getElem? (i := 217) (by decide +kernel), List.mem_of_getElem? (i := 539) (by decide +kernel), List.mem_of_getElem? (i := 540) (by decide +kernel)⟩
theorem lw_p7 : lw_okq (⟨"LockedAtDusk$Reader", "readPart", "(I)Z"⟩, 4) := ⟨⟨by decide +kernel, by decide +kernel⟩, List.mem_of_getElem? (i := 217) (by decide +kernel), List.mem_of_getElem? (i := 543) (by decide +kernel), List.mem_of_getElem? (i := 544) (by decide +kernel)⟩
theorem lw_p8 : lw_okq (⟨"LockedAtDusk$Reader", "readTest", "()Z"⟩, 4) := ⟨⟨by decide +kernel, by decide +kernel⟩, List.mem_of_getElem? (i := 217) (by decide +kernel), List.mem_of_getElem? (i := 547) (by decide +kernel), List.mem_of_getElem? (i := 548) (by decide +kernel)⟩
theorem lw_p9 : lw_okq (⟨"LockedAtDusk$Reader", "readOneOf", "(Ljava/lang/String;)I"⟩, 4) := ⟨⟨by decide +kernel, by decide +kernel⟩, List.mem_of_getElem? (i := 217) (by decide +kernel), List.mem_of_getElem? (i := 552) (by decide +kernel), List.mem_of_getElem? (i := 553) (by decide +kernel)⟩
theorem lw_p10 : lw_okq (⟨"LockedAtDusk$Reader", "readBehindNot", "(I)Z"⟩, 4) := ⟨⟨by decide +kernel, by decide +kernel⟩, List.mem_of_getElem? (i := 217) (by decide +kernel), List.mem_of_getElem? (i := 616) (by decide +kernel), List.mem_of_getElem? (i := 617) (by decide +kernel)⟩
theorem lw_p11 : lw_okq (⟨"LockedAtDusk$Park", "walk", "(LLockedAtDusk$Person;)V"⟩, 15) := ⟨⟨by decide +kernel, by decide +kernel⟩, List.mem_of_getElem? (i := 28) (by decide +kernel), List.mem_of_getElem? (i := 641) (by decide +kernel), List.mem_of_getElem? (i := 642) (by decide +kernel)⟩
theorem lw_p12 : lw_okq (⟨"LockedAtDusk$Park", "goRound", "()V"⟩, 15) := ⟨⟨by decide +kernel, by decide +kernel⟩, List.mem_of_getElem? (i := 28) (by decide +kernel), List.mem_of_getElem? (i := 652) (by decide +kernel), List.mem_of_getElem? (i := 653) (by decide +kernel)⟩
theorem lw_p13 : lw_okq (⟨"LockedAtDusk", "bestChange", "(II)I"⟩, 11) := ⟨⟨by decide +kernel, by decide +kernel⟩, List.mem_of_getElem? (i := 20) (by decide +kernel), List.mem_of_getElem? (i := 696) (by decide +kernel), List.mem_of_getElem? (i := 697) (by decide +kernel)⟩
theorem lw_p14 : lw_okq (⟨"LockedAtDusk", "canChange", "(II)Z"⟩, 11) := ⟨⟨by decide +kernel, by decide +kernel⟩, List.mem_of_getElem? (i := 20) (by decide +kernel), List.mem_of_getElem? (i := 700) (by decide +kernel), List.mem_of_getElem? (i := 701) (by decide +kernel)⟩
theorem lw_p15 : lw_okq (⟨"LockedAtDusk", "makeChange", "(II)V"⟩, 11) := ⟨⟨by decide +kernel, by decide +kernel⟩, List.mem_of_getElem? (i := 20) (by decide +kernel), List.mem_of_getElem? (i := 704) (by decide +kernel), List.mem_of_getElem? (i := 705) (by decide +kernel)⟩
def lw_privs_1 : List (MethodName × Nat) := [(⟨"LockedAtDusk$Reader", "readClause", "()Z"⟩, 4), (⟨"LockedAtDusk$Reader", "isNext", "(C)Z"⟩, 4), (⟨"LockedAtDusk$Reader", "readWord", "(Ljava/lang/String;)Z"⟩, 4), (⟨"LockedAtDusk$Reader", "skip", "(C)Z"⟩, 4), (⟨"LockedAtDusk$Reader", "readNumber", "()I"⟩, 4), (⟨"LockedAtDusk$Reader", "readEither", "(I)Z"⟩, 4), (⟨"LockedAtDusk$Reader", "readBoth", "(I)Z"⟩, 4), (⟨"LockedAtDusk$Reader", "readPart", "(I)Z"⟩, 4), (⟨"LockedAtDusk$Reader", "readTest", "()Z"⟩, 4), (⟨"LockedAtDusk$Reader", "readOneOf", "(Ljava/lang/String;)I"⟩, 4), (⟨"LockedAtDusk$Reader", "readBehindNot", "(I)Z"⟩, 4), (⟨"LockedAtDusk$Park", "walk", "(LLockedAtDusk$Person;)V"⟩, 15), (⟨"LockedAtDusk$Park", "goRound", "()V"⟩, 15), (⟨"LockedAtDusk", "bestChange", "(II)I"⟩, 11), (⟨"LockedAtDusk", "canChange", "(II)Z"⟩, 11), (⟨"LockedAtDusk", "makeChange", "(II)V"⟩, 11)]
theorem lw_r1 : ∀ q ∈ lw_privs_1, lw_okq q := List.forall_mem_cons.mpr ⟨lw_p0, List.forall_mem_cons.mpr ⟨lw_p1, List.forall_mem_cons.mpr ⟨lw_p2, List.forall_mem_cons.mpr ⟨lw_p3, List.forall_mem_cons.mpr ⟨lw_p4, List.forall_mem_cons.mpr ⟨lw_p5, List.forall_mem_cons.mpr ⟨lw_p6, List.forall_mem_cons.mpr ⟨lw_p7, List.forall_mem_cons.mpr ⟨lw_p8, List.forall_mem_cons.mpr ⟨lw_p9, List.forall_mem_cons.mpr ⟨lw_p10, List.forall_mem_cons.mpr ⟨lw_p11, List.forall_mem_cons.mpr ⟨lw_p12, List.forall_mem_cons.mpr ⟨lw_p13, List.forall_mem_cons.mpr ⟨lw_p14, List.forall_mem_cons.mpr ⟨lw_p15, fun _ h => absurd h List.not_mem_nil⟩⟩⟩⟩⟩⟩⟩⟩⟩⟩⟩⟩⟩⟩⟩⟩
theorem lw_p16 : lw_okq (⟨"LockedAtDusk", "trialIsAsSeen", "()Z"⟩, 11) := ⟨⟨by decide +kernel, by decide +kernel⟩, List.mem_of_getElem? (i := 20) (by decide +kernel), List.mem_of_getElem? (i := 747) (by decide +kernel), List.mem_of_getElem? (i := 748) (by decide +kernel)⟩
theorem lw_p17 : lw_okq (⟨"LockedAtDusk$Acts", "run", "(IIII)I"⟩, 5) := ⟨⟨by decide +kernel, by decide +kernel⟩, List.mem_of_getElem? (i := 242) (by decide +kernel), List.mem_of_getElem? (i := 824) (by decide +kernel), List.mem_of_getElem? (i := 825) (by decide +kernel)⟩
theorem lw_p18 : lw_okq (⟨"LockedAtDusk$Acts", "keep", "(I)V"⟩, 5) := ⟨⟨by decide +kernel, by decide +kernel⟩, List.mem_of_getElem? (i := 242) (by decide +kernel), List.mem_of_getElem? (i := 835) (by decide +kernel), List.mem_of_getElem? (i := 836) (by decide +kernel)⟩
theorem lw_p19 : lw_okq (⟨"LockedAtDusk$Acts", "answerOf", "(III)I"⟩, 5) := ⟨⟨by decide +kernel, by decide +kernel⟩, List.mem_of_getElem? (i := 242) (by decide +kernel), List.mem_of_getElem? (i := 839) (by decide +kernel), List.mem_of_getElem? (i := 840) (by decide +kernel)⟩
theorem lw_p20 : lw_okq (⟨"LockedAtDuskModel", "isPlace", "(I)Z"⟩, 93) := ⟨⟨by decide +kernel, by decide +kernel⟩, List.mem_of_getElem? (i := 893) (by decide +kernel), List.mem_of_getElem? (i := 1184) (by decide +kernel), List.mem_of_getElem? (i := 1185) (by decide +kernel)⟩
theorem lw_p21 : lw_okq (⟨"LockedAtDuskModel", "in", "(III)Z"⟩, 93) := ⟨⟨by decide +kernel, by decide +kernel⟩, List.mem_of_getElem? (i := 893) (by decide +kernel), List.mem_of_getElem? (i := 1188) (by decide +kernel), List.mem_of_getElem? (i := 1189) (by decide +kernel)⟩
theorem lw_p22 : lw_okq (⟨"LockedAtDuskModel", "with0", "(IIZ)I"⟩, 93) := ⟨⟨by decide +kernel, by decide +kernel⟩, List.mem_of_getElem? (i := 893) (by decide +kernel), List.mem_of_getElem? (i := 1192) (by decide +kernel), List.mem_of_getElem? (i := 1193) (by decide +kernel)⟩
theorem lw_p23 : lw_okq (⟨"LockedAtDuskModel", "isPerson", "(I)Z"⟩, 93) := ⟨⟨by decide +kernel, by decide +kernel⟩, List.mem_of_getElem? (i := 893) (by decide +kernel), List.mem_of_getElem? (i := 1204) (by decide +kernel), List.mem_of_getElem? (i := 1205) (by decide +kernel)⟩
theorem lw_p24 : lw_okq (⟨"LockedAtDuskModel", "puts", "(II)V"⟩, 93) := ⟨⟨by decide +kernel, by decide +kernel⟩, List.mem_of_getElem? (i := 893) (by decide +kernel), List.mem_of_getElem? (i := 1208) (by decide +kernel), List.mem_of_getElem? (i := 1209) (by decide +kernel)⟩
theorem lw_p25 : lw_okq (⟨"LockedAtDuskModel", "has", "(II)Z"⟩, 93) := ⟨⟨by decide +kernel, by decide +kernel⟩, List.mem_of_getElem? (i := 893) (by decide +kernel), List.mem_of_getElem? (i := 1216) (by decide +kernel), List.mem_of_getElem? (i := 1217) (by decide +kernel)⟩
theorem lw_p26 : lw_okq (⟨"LockedAtDuskModel", "isGate", "(I)Z"⟩, 93) := ⟨⟨by decide +kernel, by decide +kernel⟩, List.mem_of_getElem? (i := 893) (by decide +kernel), List.mem_of_getElem? (i := 1224) (by decide +kernel), List.mem_of_getElem? (i := 1225) (by decide +kernel)⟩
theorem lw_p27 : lw_okq (⟨"LockedAtDuskModel", "goesText", "(I)Z"⟩, 93) := ⟨⟨by decide +kernel, by decide +kernel⟩, List.mem_of_getElem? (i := 893) (by decide +kernel), List.mem_of_getElem? (i := 1244) (by decide +kernel), List.mem_of_getElem? (i := 1245) (by decide +kernel)⟩
theorem lw_p28 : lw_okq (⟨"LockedAtDuskModel", "takesClause", "(I)Z"⟩, 93) := ⟨⟨by decide +kernel, by decide +kernel⟩, List.mem_of_getElem? (i := 893) (by decide +kernel), List.mem_of_getElem? (i := 1248) (by decide +kernel), List.mem_of_getElem? (i := 1249) (by decide +kernel)⟩
theorem lw_p29 : lw_okq (⟨"LockedAtDuskModel", "takesHead", "(I)Z"⟩, 93) := ⟨⟨by decide +kernel, by decide +kernel⟩, List.mem_of_getElem? (i := 893) (by decide +kernel), List.mem_of_getElem? (i := 1252) (by decide +kernel), List.mem_of_getElem? (i := 1253) (by decide +kernel)⟩
theorem lw_p30 : lw_okq (⟨"LockedAtDuskModel", "next", "()I"⟩, 93) := ⟨⟨by decide +kernel, by decide +kernel⟩, List.mem_of_getElem? (i := 893) (by decide +kernel), List.mem_of_getElem? (i := 1256) (by decide +kernel), List.mem_of_getElem? (i := 1257) (by decide +kernel)⟩
theorem lw_p31 : lw_okq (⟨"LockedAtDuskModel", "takesWord", "(II)Z"⟩, 93) := ⟨⟨by decide +kernel, by decide +kernel⟩, List.mem_of_getElem? (i := 893) (by decide +kernel), List.mem_of_getElem? (i := 1260) (by decide +kernel), List.mem_of_getElem? (i := 1261) (by decide +kernel)⟩
def lw_privs_2 : List (MethodName × Nat) := [(⟨"LockedAtDusk", "trialIsAsSeen", "()Z"⟩, 11), (⟨"LockedAtDusk$Acts", "run", "(IIII)I"⟩, 5), (⟨"LockedAtDusk$Acts", "keep", "(I)V"⟩, 5), (⟨"LockedAtDusk$Acts", "answerOf", "(III)I"⟩, 5), (⟨"LockedAtDuskModel", "isPlace", "(I)Z"⟩, 93), (⟨"LockedAtDuskModel", "in", "(III)Z"⟩, 93), (⟨"LockedAtDuskModel", "with0", "(IIZ)I"⟩, 93), (⟨"LockedAtDuskModel", "isPerson", "(I)Z"⟩, 93), (⟨"LockedAtDuskModel", "puts", "(II)V"⟩, 93), (⟨"LockedAtDuskModel", "has", "(II)Z"⟩, 93), (⟨"LockedAtDuskModel", "isGate", "(I)Z"⟩, 93), (⟨"LockedAtDuskModel", "goesText", "(I)Z"⟩, 93), (⟨"LockedAtDuskModel", "takesClause", "(I)Z"⟩, 93), (⟨"LockedAtDuskModel", "takesHead", "(I)Z"⟩, 93), (⟨"LockedAtDuskModel", "next", "()I"⟩, 93), (⟨"LockedAtDuskModel", "takesWord", "(II)Z"⟩, 93)]
theorem lw_r2 : ∀ q ∈ lw_privs_2, lw_okq q := List.forall_mem_cons.mpr ⟨lw_p16, List.forall_mem_cons.mpr ⟨lw_p17, List.forall_mem_cons.mpr ⟨lw_p18, List.forall_mem_cons.mpr ⟨lw_p19, List.forall_mem_cons.mpr ⟨lw_p20, List.forall_mem_cons.mpr ⟨lw_p21, List.forall_mem_cons.mpr ⟨lw_p22, List.forall_mem_cons.mpr ⟨lw_p23, List.forall_mem_cons.mpr ⟨lw_p24, List.forall_mem_cons.mpr ⟨lw_p25, List.forall_mem_cons.mpr ⟨lw_p26, List.forall_mem_cons.mpr ⟨lw_p27, List.forall_mem_cons.mpr ⟨lw_p28, List.forall_mem_cons.mpr ⟨lw_p29, List.forall_mem_cons.mpr ⟨lw_p30, List.forall_mem_cons.mpr ⟨lw_p31, fun _ h => absurd h List.not_mem_nil⟩⟩⟩⟩⟩⟩⟩⟩⟩⟩⟩⟩⟩⟩⟩⟩
theorem lw_p32 : lw_okq (⟨"LockedAtDuskModel", "takes", "(I)Z"⟩, 93) := ⟨⟨by decide +kernel, by decide +kernel⟩, List.mem_of_getElem? (i := 893) (by decide +kernel), List.mem_of_getElem? (i := 1264) (by decide +kernel), List.mem_of_getElem? (i := 1265) (by decide +kernel)⟩
theorem lw_p33 : lw_okq (⟨"LockedAtDuskModel", "takesNumber", "()Z"⟩, 93) := ⟨⟨by decide +kernel, by decide +kernel⟩, List.mem_of_getElem? (i := 893) (by decide +kernel), List.mem_of_getElem? (i := 1268) (by decide +kernel), List.mem_of_getElem? (i := 1269) (by decide +kernel)⟩
theorem lw_p34 : lw_okq (⟨"LockedAtDuskModel", "isDigit", "()Z"⟩, 93) := ⟨⟨by decide +kernel, by decide +kernel⟩, List.mem_of_getElem? (i := 893) (by decide +kernel), List.mem_of_getElem? (i := 1272) (by decide +kernel), List.mem_of_getElem? (i := 1273) (by decide +kernel)⟩
theorem lw_p35 : lw_okq (⟨"LockedAtDuskModel", "takesE", "(I)Z"⟩, 93) := ⟨⟨by decide +kernel, by decide +kernel⟩, List.mem_of_getElem? (i := 893) (by decide +kernel), List.mem_of_getElem? (i := 1276) (by decide +kernel), List.mem_of_getElem? (i := 1277) (by decide +kernel)⟩
theorem lw_p36 : lw_okq (⟨"LockedAtDuskModel", "takesTest", "()Z"⟩, 93) := ⟨⟨by decide +kernel, by decide +kernel⟩, List.mem_of_getElem? (i := 893) (by decide +kernel), List.mem_of_getElem? (i := 1280) (by decide +kernel), List.mem_of_getElem? (i := 1281) (by decide +kernel)⟩
theorem lw_p37 : lw_okq (⟨"LockedAtDuskModel", "place", "(I)I"⟩, 93) := ⟨⟨by decide +kernel, by decide +kernel⟩, List.mem_of_getElem? (i := 893) (by decide +kernel), List.mem_of_getElem? (i := 1284) (by decide +kernel), List.mem_of_getElem? (i := 1285) (by decide +kernel)⟩
theorem lw_p38 : lw_okq (⟨"LockedAtDuskModel", "emits", "(I)V"⟩, 93) := ⟨⟨by decide +kernel, by decide +kernel⟩, List.mem_of_getElem? (i := 893) (by decide +kernel), List.mem_of_getElem? (i := 1288) (by decide +kernel), List.mem_of_getElem? (i := 1289) (by decide +kernel)⟩
theorem lw_p39 : lw_okq (⟨"LockedAtDuskModel", "whole", "()V"⟩, 93) := ⟨⟨by decide +kernel, by decide +kernel⟩, List.mem_of_getElem? (i := 893) (by decide +kernel), List.mem_of_getElem? (i := 1292) (by decide +kernel), List.mem_of_getElem? (i := 1293) (by decide +kernel)⟩
theorem lw_p40 : lw_okq (⟨"LockedAtDuskModel", "settle", "(I)V"⟩, 93) := ⟨⟨by decide +kernel, by decide +kernel⟩, List.mem_of_getElem? (i := 893) (by decide +kernel), List.mem_of_getElem? (i := 1296) (by decide +kernel), List.mem_of_getElem? (i := 1297) (by decide +kernel)⟩
theorem lw_p41 : lw_okq (⟨"LockedAtDuskModel", "ears", "(I)I"⟩, 93) := ⟨⟨by decide +kernel, by decide +kernel⟩, List.mem_of_getElem? (i := 893) (by decide +kernel), List.mem_of_getElem? (i := 1304) (by decide +kernel), List.mem_of_getElem? (i := 1305) (by decide +kernel)⟩
theorem lw_p42 : lw_okq (⟨"LockedAtDuskModel", "begin", "()I"⟩, 93) := ⟨⟨by decide +kernel, by decide +kernel⟩, List.mem_of_getElem? (i := 893) (by decide +kernel), List.mem_of_getElem? (i := 1308) (by decide +kernel), List.mem_of_getElem? (i := 1309) (by decide +kernel)⟩
theorem lw_p43 : lw_okq (⟨"LockedAtDuskModel", "behind", "()I"⟩, 93) := ⟨⟨by decide +kernel, by decide +kernel⟩, List.mem_of_getElem? (i := 893) (by decide +kernel), List.mem_of_getElem? (i := 1312) (by decide +kernel), List.mem_of_getElem? (i := 1313) (by decide +kernel)⟩
theorem lw_p44 : lw_okq (⟨"LockedAtDuskModel", "holds", "(II)Z"⟩, 93) := ⟨⟨by decide +kernel, by decide +kernel⟩, List.mem_of_getElem? (i := 893) (by decide +kernel), List.mem_of_getElem? (i := 1316) (by decide +kernel), List.mem_of_getElem? (i := 1317) (by decide +kernel)⟩
theorem lw_p45 : lw_okq (⟨"LockedAtDuskModel", "factOf", "(II)I"⟩, 93) := ⟨⟨by decide +kernel, by decide +kernel⟩, List.mem_of_getElem? (i := 893) (by decide +kernel), List.mem_of_getElem? (i := 1320) (by decide +kernel), List.mem_of_getElem? (i := 1321) (by decide +kernel)⟩
theorem lw_p46 : lw_okq (⟨"LockedAtDuskModel", "ones", "(I)I"⟩, 93) := ⟨⟨by decide +kernel, by decide +kernel⟩, List.mem_of_getElem? (i := 893) (by decide +kernel), List.mem_of_getElem? (i := 1324) (by decide +kernel), List.mem_of_getElem? (i := 1325) (by decide +kernel)⟩
theorem lw_p47 : lw_okq (⟨"LockedAtDuskModel", "hears", "(I)Z"⟩, 93) := ⟨⟨by decide +kernel, by decide +kernel⟩, List.mem_of_getElem? (i := 893) (by decide +kernel), List.mem_of_getElem? (i := 1328) (by decide +kernel), List.mem_of_getElem? (i := 1329) (by decide +kernel)⟩
def lw_privs_3 : List (MethodName × Nat) := [(⟨"LockedAtDuskModel", "takes", "(I)Z"⟩, 93), (⟨"LockedAtDuskModel", "takesNumber", "()Z"⟩, 93), (⟨"LockedAtDuskModel", "isDigit", "()Z"⟩, 93), (⟨"LockedAtDuskModel", "takesE", "(I)Z"⟩, 93), (⟨"LockedAtDuskModel", "takesTest", "()Z"⟩, 93), (⟨"LockedAtDuskModel", "place", "(I)I"⟩, 93), (⟨"LockedAtDuskModel", "emits", "(I)V"⟩, 93), (⟨"LockedAtDuskModel", "whole", "()V"⟩, 93), (⟨"LockedAtDuskModel", "settle", "(I)V"⟩, 93), (⟨"LockedAtDuskModel", "ears", "(I)I"⟩, 93), (⟨"LockedAtDuskModel", "begin", "()I"⟩, 93), (⟨"LockedAtDuskModel", "behind", "()I"⟩, 93), (⟨"LockedAtDuskModel", "holds", "(II)Z"⟩, 93), (⟨"LockedAtDuskModel", "factOf", "(II)I"⟩, 93), (⟨"LockedAtDuskModel", "ones", "(I)I"⟩, 93), (⟨"LockedAtDuskModel", "hears", "(I)Z"⟩, 93)]
theorem lw_r3 : ∀ q ∈ lw_privs_3, lw_okq q := List.forall_mem_cons.mpr ⟨lw_p32, List.forall_mem_cons.mpr ⟨lw_p33, List.forall_mem_cons.mpr ⟨lw_p34, List.forall_mem_cons.mpr ⟨lw_p35, List.forall_mem_cons.mpr ⟨lw_p36, List.forall_mem_cons.mpr ⟨lw_p37, List.forall_mem_cons.mpr ⟨lw_p38, List.forall_mem_cons.mpr ⟨lw_p39, List.forall_mem_cons.mpr ⟨lw_p40, List.forall_mem_cons.mpr ⟨lw_p41, List.forall_mem_cons.mpr ⟨lw_p42, List.forall_mem_cons.mpr ⟨lw_p43, List.forall_mem_cons.mpr ⟨lw_p44, List.forall_mem_cons.mpr ⟨lw_p45, List.forall_mem_cons.mpr ⟨lw_p46, List.forall_mem_cons.mpr ⟨lw_p47, fun _ h => absurd h List.not_mem_nil⟩⟩⟩⟩⟩⟩⟩⟩⟩⟩⟩⟩⟩⟩⟩⟩
theorem lw_p48 : lw_okq (⟨"LockedAtDuskModel", "way", "(II)I"⟩, 93) := ⟨⟨by decide +kernel, by decide +kernel⟩, List.mem_of_getElem? (i := 893) (by decide +kernel), List.mem_of_getElem? (i := 1332) (by decide +kernel), List.mem_of_getElem? (i := 1333) (by decide +kernel)⟩
theorem lw_p49 : lw_okq (⟨"LockedAtDuskModel", "up", "(II)I"⟩, 93) := ⟨⟨by decide +kernel, by decide +kernel⟩, List.mem_of_getElem? (i := 893) (by decide +kernel), List.mem_of_getElem? (i := 1336) (by decide +kernel), List.mem_of_getElem? (i := 1337) (by decide +kernel)⟩
theorem lw_p50 : lw_okq (⟨"LockedAtDuskModel", "lastOf", "(II)I"⟩, 93) := ⟨⟨by decide +kernel, by decide +kernel⟩, List.mem_of_getElem? (i := 893) (by decide +kernel), List.mem_of_getElem? (i := 1340) (by decide +kernel), List.mem_of_getElem? (i := 1341) (by decide +kernel)⟩
theorem lw_p51 : lw_okq (⟨"LockedAtDuskModel", "steps", "(I)I"⟩, 93) := ⟨⟨by decide +kernel, by decide +kernel⟩, List.mem_of_getElem? (i := 893) (by decide +kernel), List.mem_of_getElem? (i := 1344) (by decide +kernel), List.mem_of_getElem? (i := 1345) (by decide +kernel)⟩
theorem lw_p52 : lw_okq (⟨"LockedAtDuskModel", "goal", "(I)I"⟩, 93) := ⟨⟨by decide +kernel, by decide +kernel⟩, List.mem_of_getElem? (i := 893) (by decide +kernel), List.mem_of_getElem? (i := 1348) (by decide +kernel), List.mem_of_getElem? (i := 1349) (by decide +kernel)⟩
theorem lw_p53 : lw_okq (⟨"LockedAtDuskModel", "pace", "()I"⟩, 93) := ⟨⟨by decide +kernel, by decide +kernel⟩, List.mem_of_getElem? (i := 893) (by decide +kernel), List.mem_of_getElem? (i := 1356) (by decide +kernel), List.mem_of_getElem? (i := 1357) (by decide +kernel)⟩
theorem lw_p54 : lw_okq (⟨"LockedAtDuskModel", "goMinutes", "(I)V"⟩, 93) := ⟨⟨by decide +kernel, by decide +kernel⟩, List.mem_of_getElem? (i := 893) (by decide +kernel), List.mem_of_getElem? (i := 1364) (by decide +kernel), List.mem_of_getElem? (i := 1365) (by decide +kernel)⟩
theorem lw_p55 : lw_okq (⟨"LockedAtDuskModel", "goMinute", "()V"⟩, 93) := ⟨⟨by decide +kernel, by decide +kernel⟩, List.mem_of_getElem? (i := 893) (by decide +kernel), List.mem_of_getElem? (i := 1368) (by decide +kernel), List.mem_of_getElem? (i := 1369) (by decide +kernel)⟩
theorem lw_p56 : lw_okq (⟨"LockedAtDuskModel", "goPerson", "(I)V"⟩, 93) := ⟨⟨by decide +kernel, by decide +kernel⟩, List.mem_of_getElem? (i := 893) (by decide +kernel), List.mem_of_getElem? (i := 1372) (by decide +kernel), List.mem_of_getElem? (i := 1373) (by decide +kernel)⟩
theorem lw_p57 : lw_okq (⟨"LockedAtDuskModel", "toward", "(III)I"⟩, 93) := ⟨⟨by decide +kernel, by decide +kernel⟩, List.mem_of_getElem? (i := 893) (by decide +kernel), List.mem_of_getElem? (i := 1376) (by decide +kernel), List.mem_of_getElem? (i := 1377) (by decide +kernel)⟩
theorem lw_p58 : lw_okq (⟨"LockedAtDuskModel", "goKeeper", "()V"⟩, 93) := ⟨⟨by decide +kernel, by decide +kernel⟩, List.mem_of_getElem? (i := 893) (by decide +kernel), List.mem_of_getElem? (i := 1380) (by decide +kernel), List.mem_of_getElem? (i := 1381) (by decide +kernel)⟩
theorem lw_p59 : lw_okq (⟨"LockedAtDuskModel", "isMinutes", "(I)Z"⟩, 93) := ⟨⟨by decide +kernel, by decide +kernel⟩, List.mem_of_getElem? (i := 893) (by decide +kernel), List.mem_of_getElem? (i := 1388) (by decide +kernel), List.mem_of_getElem? (i := 1389) (by decide +kernel)⟩
theorem lw_p60 : lw_okq (⟨"LockedAtDuskModel", "save", "()V"⟩, 93) := ⟨⟨by decide +kernel, by decide +kernel⟩, List.mem_of_getElem? (i := 893) (by decide +kernel), List.mem_of_getElem? (i := 1392) (by decide +kernel), List.mem_of_getElem? (i := 1393) (by decide +kernel)⟩
theorem lw_p61 : lw_okq (⟨"LockedAtDuskModel", "putBack", "()V"⟩, 93) := ⟨⟨by decide +kernel, by decide +kernel⟩, List.mem_of_getElem? (i := 893) (by decide +kernel), List.mem_of_getElem? (i := 1396) (by decide +kernel), List.mem_of_getElem? (i := 1397) (by decide +kernel)⟩
theorem lw_p62 : lw_okq (⟨"LockedAtDuskModel", "all", "()I"⟩, 93) := ⟨⟨by decide +kernel, by decide +kernel⟩, List.mem_of_getElem? (i := 893) (by decide +kernel), List.mem_of_getElem? (i := 1404) (by decide +kernel), List.mem_of_getElem? (i := 1405) (by decide +kernel)⟩
theorem lw_p63 : lw_okq (⟨"LockedAtDuskModel", "firstOf", "()I"⟩, 93) := ⟨⟨by decide +kernel, by decide +kernel⟩, List.mem_of_getElem? (i := 893) (by decide +kernel), List.mem_of_getElem? (i := 1417) (by decide +kernel), List.mem_of_getElem? (i := 1418) (by decide +kernel)⟩
def lw_privs_4 : List (MethodName × Nat) := [(⟨"LockedAtDuskModel", "way", "(II)I"⟩, 93), (⟨"LockedAtDuskModel", "up", "(II)I"⟩, 93), (⟨"LockedAtDuskModel", "lastOf", "(II)I"⟩, 93), (⟨"LockedAtDuskModel", "steps", "(I)I"⟩, 93), (⟨"LockedAtDuskModel", "goal", "(I)I"⟩, 93), (⟨"LockedAtDuskModel", "pace", "()I"⟩, 93), (⟨"LockedAtDuskModel", "goMinutes", "(I)V"⟩, 93), (⟨"LockedAtDuskModel", "goMinute", "()V"⟩, 93), (⟨"LockedAtDuskModel", "goPerson", "(I)V"⟩, 93), (⟨"LockedAtDuskModel", "toward", "(III)I"⟩, 93), (⟨"LockedAtDuskModel", "goKeeper", "()V"⟩, 93), (⟨"LockedAtDuskModel", "isMinutes", "(I)Z"⟩, 93), (⟨"LockedAtDuskModel", "save", "()V"⟩, 93), (⟨"LockedAtDuskModel", "putBack", "()V"⟩, 93), (⟨"LockedAtDuskModel", "all", "()I"⟩, 93), (⟨"LockedAtDuskModel", "firstOf", "()I"⟩, 93)]
theorem lw_r4 : ∀ q ∈ lw_privs_4, lw_okq q := List.forall_mem_cons.mpr ⟨lw_p48, List.forall_mem_cons.mpr ⟨lw_p49, List.forall_mem_cons.mpr ⟨lw_p50, List.forall_mem_cons.mpr ⟨lw_p51, List.forall_mem_cons.mpr ⟨lw_p52, List.forall_mem_cons.mpr ⟨lw_p53, List.forall_mem_cons.mpr ⟨lw_p54, List.forall_mem_cons.mpr ⟨lw_p55, List.forall_mem_cons.mpr ⟨lw_p56, List.forall_mem_cons.mpr ⟨lw_p57, List.forall_mem_cons.mpr ⟨lw_p58, List.forall_mem_cons.mpr ⟨lw_p59, List.forall_mem_cons.mpr ⟨lw_p60, List.forall_mem_cons.mpr ⟨lw_p61, List.forall_mem_cons.mpr ⟨lw_p62, List.forall_mem_cons.mpr ⟨lw_p63, fun _ h => absurd h List.not_mem_nil⟩⟩⟩⟩⟩⟩⟩⟩⟩⟩⟩⟩⟩⟩⟩⟩
theorem lw_p64 : lw_okq (⟨"LockedAtDuskModel", "leftThen", "()I"⟩, 93) := ⟨⟨by decide +kernel, by decide +kernel⟩, List.mem_of_getElem? (i := 893) (by decide +kernel), List.mem_of_getElem? (i := 1421) (by decide +kernel), List.mem_of_getElem? (i := 1422) (by decide +kernel)⟩
theorem lw_p65 : lw_okq (⟨"LockedAtDuskModel", "swapOf", "()I"⟩, 93) := ⟨⟨by decide +kernel, by decide +kernel⟩, List.mem_of_getElem? (i := 893) (by decide +kernel), List.mem_of_getElem? (i := 1425) (by decide +kernel), List.mem_of_getElem? (i := 1426) (by decide +kernel)⟩
theorem lw_p66 : lw_okq (⟨"LockedAtDuskModel", "left", "()I"⟩, 93) := ⟨⟨by decide +kernel, by decide +kernel⟩, List.mem_of_getElem? (i := 893) (by decide +kernel), List.mem_of_getElem? (i := 1429) (by decide +kernel), List.mem_of_getElem? (i := 1430) (by decide +kernel)⟩
theorem lw_p67 : lw_okq (⟨"LockedAtDuskModel", "quickOf", "()I"⟩, 93) := ⟨⟨by decide +kernel, by decide +kernel⟩, List.mem_of_getElem? (i := 893) (by decide +kernel), List.mem_of_getElem? (i := 1433) (by decide +kernel), List.mem_of_getElem? (i := 1434) (by decide +kernel)⟩
theorem lw_p68 : lw_okq (⟨"LockedAtDuskModel", "waitOf", "()I"⟩, 93) := ⟨⟨by decide +kernel, by decide +kernel⟩, List.mem_of_getElem? (i := 893) (by decide +kernel), List.mem_of_getElem? (i := 1437) (by decide +kernel), List.mem_of_getElem? (i := 1438) (by decide +kernel)⟩
theorem lw_p69 : lw_okq (⟨"LockedAtDuskModel", "openOf", "()I"⟩, 93) := ⟨⟨by decide +kernel, by decide +kernel⟩, List.mem_of_getElem? (i := 893) (by decide +kernel), List.mem_of_getElem? (i := 1441) (by decide +kernel), List.mem_of_getElem? (i := 1442) (by decide +kernel)⟩
theorem lw_p70 : lw_okq (⟨"LockedAtDuskModel", "isSeen", "(II)Z"⟩, 93) := ⟨⟨by decide +kernel, by decide +kernel⟩, List.mem_of_getElem? (i := 893) (by decide +kernel), List.mem_of_getElem? (i := 1457) (by decide +kernel), List.mem_of_getElem? (i := 1458) (by decide +kernel)⟩
theorem lw_p71 : lw_okq (⟨"LockedAtDuskModel", "lowest", "(III)J"⟩, 93) := ⟨⟨by decide +kernel, by decide +kernel⟩, List.mem_of_getElem? (i := 893) (by decide +kernel), List.mem_of_getElem? (i := 1470) (by decide +kernel), List.mem_of_getElem? (i := 1471) (by decide +kernel)⟩
theorem lw_p72 : lw_okq (⟨"LockedAtDuskModel", "divisor", "(II)I"⟩, 93) := ⟨⟨by decide +kernel, by decide +kernel⟩, List.mem_of_getElem? (i := 893) (by decide +kernel), List.mem_of_getElem? (i := 1474) (by decide +kernel), List.mem_of_getElem? (i := 1475) (by decide +kernel)⟩
theorem lw_p73 : lw_okq (⟨"LockedAtDuskModel", "isTape", "(I)Z"⟩, 93) := ⟨⟨by decide +kernel, by decide +kernel⟩, List.mem_of_getElem? (i := 893) (by decide +kernel), List.mem_of_getElem? (i := 1502) (by decide +kernel), List.mem_of_getElem? (i := 1503) (by decide +kernel)⟩
theorem lw_p74 : lw_okq (⟨"LockedAtDuskModel", "waitsAct", "(II)I"⟩, 93) := ⟨⟨by decide +kernel, by decide +kernel⟩, List.mem_of_getElem? (i := 893) (by decide +kernel), List.mem_of_getElem? (i := 1518) (by decide +kernel), List.mem_of_getElem? (i := 1519) (by decide +kernel)⟩
theorem lw_p75 : lw_okq (⟨"LockedAtDuskModel", "body", "(I)V"⟩, 93) := ⟨⟨by decide +kernel, by decide +kernel⟩, List.mem_of_getElem? (i := 893) (by decide +kernel), List.mem_of_getElem? (i := 1522) (by decide +kernel), List.mem_of_getElem? (i := 1523) (by decide +kernel)⟩
theorem lw_p76 : lw_okq (⟨"LockedAtDuskModel", "personWaits", "(II)I"⟩, 93) := ⟨⟨by decide +kernel, by decide +kernel⟩, List.mem_of_getElem? (i := 893) (by decide +kernel), List.mem_of_getElem? (i := 1526) (by decide +kernel), List.mem_of_getElem? (i := 1527) (by decide +kernel)⟩
theorem lw_p77 : lw_okq (⟨"LockedAtDuskModel", "walksAct", "(II)I"⟩, 93) := ⟨⟨by decide +kernel, by decide +kernel⟩, List.mem_of_getElem? (i := 893) (by decide +kernel), List.mem_of_getElem? (i := 1530) (by decide +kernel), List.mem_of_getElem? (i := 1531) (by decide +kernel)⟩
theorem lw_p78 : lw_okq (⟨"LockedAtDuskModel", "oldWalks", "(II)I"⟩, 93) := ⟨⟨by decide +kernel, by decide +kernel⟩, List.mem_of_getElem? (i := 893) (by decide +kernel), List.mem_of_getElem? (i := 1534) (by decide +kernel), List.mem_of_getElem? (i := 1535) (by decide +kernel)⟩
theorem lw_p79 : lw_okq (⟨"LockedAtDuskModel", "personWalks", "(II)I"⟩, 93) := ⟨⟨by decide +kernel, by decide +kernel⟩, List.mem_of_getElem? (i := 893) (by decide +kernel), List.mem_of_getElem? (i := 1538) (by decide +kernel), List.mem_of_getElem? (i := 1539) (by decide +kernel)⟩
def lw_privs_5 : List (MethodName × Nat) := [(⟨"LockedAtDuskModel", "leftThen", "()I"⟩, 93), (⟨"LockedAtDuskModel", "swapOf", "()I"⟩, 93), (⟨"LockedAtDuskModel", "left", "()I"⟩, 93), (⟨"LockedAtDuskModel", "quickOf", "()I"⟩, 93), (⟨"LockedAtDuskModel", "waitOf", "()I"⟩, 93), (⟨"LockedAtDuskModel", "openOf", "()I"⟩, 93), (⟨"LockedAtDuskModel", "isSeen", "(II)Z"⟩, 93), (⟨"LockedAtDuskModel", "lowest", "(III)J"⟩, 93), (⟨"LockedAtDuskModel", "divisor", "(II)I"⟩, 93), (⟨"LockedAtDuskModel", "isTape", "(I)Z"⟩, 93), (⟨"LockedAtDuskModel", "waitsAct", "(II)I"⟩, 93), (⟨"LockedAtDuskModel", "body", "(I)V"⟩, 93), (⟨"LockedAtDuskModel", "personWaits", "(II)I"⟩, 93), (⟨"LockedAtDuskModel", "walksAct", "(II)I"⟩, 93), (⟨"LockedAtDuskModel", "oldWalks", "(II)I"⟩, 93), (⟨"LockedAtDuskModel", "personWalks", "(II)I"⟩, 93)]
theorem lw_r5 : ∀ q ∈ lw_privs_5, lw_okq q := List.forall_mem_cons.mpr ⟨lw_p64, List.forall_mem_cons.mpr ⟨lw_p65, List.forall_mem_cons.mpr ⟨lw_p66, List.forall_mem_cons.mpr ⟨lw_p67, List.forall_mem_cons.mpr ⟨lw_p68, List.forall_mem_cons.mpr ⟨lw_p69, List.forall_mem_cons.mpr ⟨lw_p70, List.forall_mem_cons.mpr ⟨lw_p71, List.forall_mem_cons.mpr ⟨lw_p72, List.forall_mem_cons.mpr ⟨lw_p73, List.forall_mem_cons.mpr ⟨lw_p74, List.forall_mem_cons.mpr ⟨lw_p75, List.forall_mem_cons.mpr ⟨lw_p76, List.forall_mem_cons.mpr ⟨lw_p77, List.forall_mem_cons.mpr ⟨lw_p78, List.forall_mem_cons.mpr ⟨lw_p79, fun _ h => absurd h List.not_mem_nil⟩⟩⟩⟩⟩⟩⟩⟩⟩⟩⟩⟩⟩⟩⟩⟩
theorem lw_p80 : lw_okq (⟨"LockedAtDuskModel", "tellsAct", "(II)I"⟩, 93) := ⟨⟨by decide +kernel, by decide +kernel⟩, List.mem_of_getElem? (i := 893) (by decide +kernel), List.mem_of_getElem? (i := 1542) (by decide +kernel), List.mem_of_getElem? (i := 1543) (by decide +kernel)⟩
theorem lw_p81 : lw_okq (⟨"LockedAtDuskModel", "personTells", "(II)I"⟩, 93) := ⟨⟨by decide +kernel, by decide +kernel⟩, List.mem_of_getElem? (i := 893) (by decide +kernel), List.mem_of_getElem? (i := 1546) (by decide +kernel), List.mem_of_getElem? (i := 1547) (by decide +kernel)⟩
theorem lw_p82 : lw_okq (⟨"LockedAtDuskModel", "narrow", "(IJ)J"⟩, 93) := ⟨⟨by decide +kernel, by decide +kernel⟩, List.mem_of_getElem? (i := 893) (by decide +kernel), List.mem_of_getElem? (i := 1570) (by decide +kernel), List.mem_of_getElem? (i := 1571) (by decide +kernel)⟩
def lw_privs_6 : List (MethodName × Nat) := [(⟨"LockedAtDuskModel", "tellsAct", "(II)I"⟩, 93), (⟨"LockedAtDuskModel", "personTells", "(II)I"⟩, 93), (⟨"LockedAtDuskModel", "narrow", "(IJ)J"⟩, 93)]
theorem lw_r6 : ∀ q ∈ lw_privs_6, lw_okq q := List.forall_mem_cons.mpr ⟨lw_p80, List.forall_mem_cons.mpr ⟨lw_p81, List.forall_mem_cons.mpr ⟨lw_p82, fun _ h => absurd h List.not_mem_nil⟩⟩⟩
def lw_privs : List (MethodName × Nat) := lw_privs_1 ++ (lw_privs_2 ++ (lw_privs_3 ++ (lw_privs_4 ++ (lw_privs_5 ++ (lw_privs_6)))))
def lw_tbl : List Cond := k2_sels lw_privs ++ tables_1
theorem lw_privs_ok : ∀ q ∈ lw_privs, lw_okq q := by
  show ∀ q ∈ lw_privs_1 ++ (lw_privs_2 ++ (lw_privs_3 ++ (lw_privs_4 ++ (lw_privs_5 ++ (lw_privs_6))))), lw_okq q
  exact List.forall_mem_append.mpr ⟨lw_r1, List.forall_mem_append.mpr ⟨lw_r2, List.forall_mem_append.mpr ⟨lw_r3, List.forall_mem_append.mpr ⟨lw_r4, List.forall_mem_append.mpr ⟨lw_r5, lw_r6⟩⟩⟩⟩⟩

/-! ===== BEGIN words of one list among another's, by their places ===== -/
theorem goodIn_r {big : List Cond} (ws : List Cond) (ps : List Nat) (hp : ws = ps.filterMap (fun i => big[i]?)) (h : ws.all goodWord = true) : GoodIn big ws := by
  intro w hw
  have h1 := List.all_eq_true.mp h w hw
  rw [hp] at hw
  obtain ⟨i, -, hi⟩ := List.mem_filterMap.mp hw
  have hm : w ∈ big := by first | exact List.mem_of_getElem? hi | exact List.getElem?_mem hi
  exact ⟨hm, good_of_word h1⟩
theorem goodIn_app {big a b : List Cond} (ha : GoodIn big a) (hb : GoodIn big b) : GoodIn big (a ++ b) := fun w h => (List.mem_append.mp h).elim (ha w) (hb w)
theorem goodIn_ca {big a b : List Cond} {c : Cond} (ha : GoodIn big (c :: a)) (hb : GoodIn big b) : GoodIn big (c :: (a ++ b)) := fun w h => (List.mem_cons.mp h).elim (fun e => ha w (List.mem_cons.mpr (Or.inl e))) (fun h => (List.mem_append.mp h).elim (fun h => ha w (List.mem_cons.mpr (Or.inr h))) (hb w))
theorem goodIn_sub {big ws : List Cond} (hm : ∀ w ∈ ws, w ∈ big) (h : ws.all goodWord = true) : GoodIn big ws := fun w hw => ⟨hm w hw, good_of_word (List.all_eq_true.mp h w hw)⟩
/-! ===== END ===== -/
/-! ===== BEGIN printed: names, fields, word lists, decode rows ===== -/
def RX0 : String := "LockedAtDusk$Acts"
def TX0 : u_T := fun k => match k with
  | 0 => ("LockedAtDusk$Acts", "trace", "[I", true)
  | 1 => ("LockedAtDusk$Acts", "ran", "I", false)
  | 2 => ("LockedAtDusk$Acts", "kind", "I", false)
  | 3 => ("LockedAtDusk$Acts", "number", "I", false)
  | _ => ("LockedAtDusk$Acts", "v", "I", false)
def tyX0 : Nat → FieldType := fun k => match k with
  | 0 => .array .int
  | 1 => .int
  | 2 => .int
  | 3 => .int
  | _ => .int
abbrev wsX00 : List Cond := u_ws RX0 TX0 5
theorem nmX0 : ∀ a, a < 5 → ∀ b, b < 5 → a ≠ b → (TX0 a).2.1 ≠ (TX0 b).2.1 := by decide +kernel
theorem tyX0_ok : ∀ k, k < 5 → parseFieldDescriptor (TX0 k).2.2.1 = some (tyX0 k) := by decide +kernel
abbrev cX0_init : ByteArray := prog_2_method_1_code
def yX0_init : MethodName := ⟨RX0, "<init>", "()V"⟩
abbrev cX0_begin : ByteArray := prog_2_method_2_code
def yX0_begin : MethodName := ⟨RX0, "begin", "(ILLockedAtDusk$Person;II)I"⟩
abbrev cX0_run : ByteArray := prog_2_method_3_code
def yX0_run : MethodName := ⟨RX0, "run", "(IIII)I"⟩
abbrev cX0_answerOf : ByteArray := prog_2_method_4_code
def yX0_answerOf : MethodName := ⟨RX0, "answerOf", "(III)I"⟩
abbrev cX0_bodyOf : ByteArray := prog_2_method_5_code
def yX0_bodyOf : MethodName := ⟨RX0, "bodyOf", "(II)I"⟩
abbrev cX0_keep : ByteArray := prog_2_method_6_code
def yX0_keep : MethodName := ⟨RX0, "keep", "(I)V"⟩
def RX1 : String := "LockedAtDusk$Dusk"
def TX1 : u_T := fun k => match k with
  | 0 => ("LockedAtDusk$Dusk", "codes", "[I", true)
  | 1 => ("LockedAtDusk$Dusk", "size", "I", false)
  | 2 => ("LockedAtDusk$Dusk", "bell", "I", false)
  | _ => ("LockedAtDusk$Dusk", "pace", "I", false)
def tyX1 : Nat → FieldType := fun k => match k with
  | 0 => .array .int
  | 1 => .int
  | 2 => .int
  | _ => .int
abbrev wsX10 : List Cond := u_ws RX1 TX1 4
theorem nmX1 : ∀ a, a < 4 → ∀ b, b < 4 → a ≠ b → (TX1 a).2.1 ≠ (TX1 b).2.1 := by decide +kernel
theorem tyX1_ok : ∀ k, k < 4 → parseFieldDescriptor (TX1 k).2.2.1 = some (tyX1 k) := by decide +kernel
abbrev cX1_init : ByteArray := prog_3_method_1_code
def yX1_init : MethodName := ⟨RX1, "<init>", "()V"⟩
abbrev cX1_empty : ByteArray := prog_3_method_2_code
def yX1_empty : MethodName := ⟨RX1, "empty", "()V"⟩
abbrev cX1_addCode : ByteArray := prog_3_method_3_code
def yX1_addCode : MethodName := ⟨RX1, "addCode", "(I)V"⟩
abbrev cX1_earsBy : ByteArray := prog_3_method_4_code
def yX1_earsBy : MethodName := ⟨RX1, "earsBy", "([I)I"⟩
abbrev cX1_testHolds : ByteArray := prog_3_method_5_code
def yX1_testHolds : MethodName := ⟨RX1, "testHolds", "(I[I)Z"⟩
def RX2 : String := "LockedAtDusk$Image"
def TX2 : u_T := fun k => match k with
  | 0 => ("LockedAtDusk$Image", "park", "LLockedAtDusk$Park;", true)
  | 1 => ("LockedAtDusk$Image", "seen", "LLockedAtDusk$Rows;", true)
  | 2 => ("LockedAtDusk$Image", "evening", "LLockedAtDusk$Rows;", true)
  | 3 => ("LockedAtDusk$Image", "book", "LLockedAtDusk$Rows;", true)
  | _ => ("LockedAtDusk$Image", "isTaken", "Z", false)
def tyX2 : Nat → FieldType := fun k => match k with
  | 0 => .object "LockedAtDusk$Park"
  | 1 => .object "LockedAtDusk$Rows"
  | 2 => .object "LockedAtDusk$Rows"
  | 3 => .object "LockedAtDusk$Rows"
  | _ => .boolean
abbrev wsX20 : List Cond := u_ws RX2 TX2 5
theorem nmX2 : ∀ a, a < 5 → ∀ b, b < 5 → a ≠ b → (TX2 a).2.1 ≠ (TX2 b).2.1 := by decide +kernel
theorem tyX2_ok : ∀ k, k < 5 → parseFieldDescriptor (TX2 k).2.2.1 = some (tyX2 k) := by decide +kernel
abbrev cX2_init : ByteArray := prog_4_method_1_code
def yX2_init : MethodName := ⟨RX2, "<init>", "()V"⟩
def RX3 : String := "LockedAtDusk$Park"
def TX3 : u_T := fun k => match k with
  | 0 => ("LockedAtDusk$Park", "gatePlaces", "[I", true)
  | 1 => ("LockedAtDusk$Park", "persons", "[LLockedAtDusk$Person;", true)
  | 2 => ("LockedAtDusk$Park", "round", "[I", true)
  | 3 => ("LockedAtDusk$Park", "facts", "[I", true)
  | 4 => ("LockedAtDusk$Park", "gates", "I", false)
  | 5 => ("LockedAtDusk$Park", "shutGates", "I", false)
  | 6 => ("LockedAtDusk$Park", "people", "I", false)
  | 7 => ("LockedAtDusk$Park", "keeper", "I", false)
  | 8 => ("LockedAtDusk$Park", "rounds", "I", false)
  | 9 => ("LockedAtDusk$Park", "at", "I", false)
  | 10 => ("LockedAtDusk$Park", "minute", "I", false)
  | 11 => ("LockedAtDusk$Park", "dusk", "LLockedAtDusk$Dusk;", false)
  | 12 => ("LockedAtDusk$Park", "otherPace", "I", false)
  | 13 => ("LockedAtDusk$Park", "waiting", "I", false)
  | _ => ("LockedAtDusk$Park", "openGate", "I", false)
def tyX3 : Nat → FieldType := fun k => match k with
  | 0 => .array .int
  | 1 => .array (.object "LockedAtDusk$Person")
  | 2 => .array .int
  | 3 => .array .int
  | 4 => .int
  | 5 => .int
  | 6 => .int
  | 7 => .int
  | 8 => .int
  | 9 => .int
  | 10 => .int
  | 11 => .object "LockedAtDusk$Dusk"
  | 12 => .int
  | 13 => .int
  | _ => .int
abbrev wsX30 : List Cond := u_ws RX3 TX3 15
theorem nmX3 : ∀ a, a < 15 → ∀ b, b < 15 → a ≠ b → (TX3 a).2.1 ≠ (TX3 b).2.1 := by decide +kernel
theorem tyX3_ok : ∀ k, k < 15 → parseFieldDescriptor (TX3 k).2.2.1 = some (tyX3 k) := by decide +kernel
abbrev cX3_init : ByteArray := prog_5_method_1_code
def yX3_init : MethodName := ⟨RX3, "<init>", "()V"⟩
abbrev cX3_copyFrom : ByteArray := prog_5_method_2_code
def yX3_copyFrom : MethodName := ⟨RX3, "copyFrom", "(LLockedAtDusk$Park;)V"⟩
abbrev cX3_hasGate : ByteArray := prog_5_method_3_code
def yX3_hasGate : MethodName := ⟨RX3, "hasGate", "(I)Z"⟩
abbrev cX3_hasPerson : ByteArray := prog_5_method_4_code
def yX3_hasPerson : MethodName := ⟨RX3, "hasPerson", "(I)Z"⟩
abbrev cX3_addGate : ByteArray := prog_5_method_5_code
def yX3_addGate : MethodName := ⟨RX3, "addGate", "(I)I"⟩
abbrev cX3_addPerson : ByteArray := prog_5_method_6_code
def yX3_addPerson : MethodName := ⟨RX3, "addPerson", "(III)I"⟩
abbrev cX3_isShut : ByteArray := prog_5_method_7_code
def yX3_isShut : MethodName := ⟨RX3, "isShut", "(I)Z"⟩
abbrev cX3_setShut : ByteArray := prog_5_method_8_code
def yX3_setShut : MethodName := ⟨RX3, "setShut", "(IZ)V"⟩
abbrev cX3_setDown : ByteArray := prog_5_method_9_code
def yX3_setDown : MethodName := ⟨RX3, "setDown", "(II)V"⟩
abbrev cX3_endRound : ByteArray := prog_5_method_10_code
def yX3_endRound : MethodName := ⟨RX3, "endRound", "()V"⟩
abbrev cX3_beginRoundWith : ByteArray := prog_5_method_11_code
def yX3_beginRoundWith : MethodName := ⟨RX3, "beginRoundWith", "(I)V"⟩
abbrev cX3_swapInRound : ByteArray := prog_5_method_12_code
def yX3_swapInRound : MethodName := ⟨RX3, "swapInRound", "(II)V"⟩
abbrev cX3_keepOpen : ByteArray := prog_5_method_13_code
def yX3_keepOpen : MethodName := ⟨RX3, "keepOpen", "(I)V"⟩
abbrev cX3_sendOthersOut : ByteArray := prog_5_method_14_code
def yX3_sendOthersOut : MethodName := ⟨RX3, "sendOthersOut", "(I)V"⟩
abbrev cX3_outBits : ByteArray := prog_5_method_15_code
def yX3_outBits : MethodName := ⟨RX3, "outBits", "()I"⟩
abbrev cX3_inside : ByteArray := prog_5_method_16_code
def yX3_inside : MethodName := ⟨RX3, "inside", "()I"⟩
abbrev cX3_leftBehind : ByteArray := prog_5_method_17_code
def yX3_leftBehind : MethodName := ⟨RX3, "leftBehind", "()I"⟩
abbrev cX3_passMinutes : ByteArray := prog_5_method_18_code
def yX3_passMinutes : MethodName := ⟨RX3, "passMinutes", "(I)V"⟩
abbrev cX3_passMinute : ByteArray := prog_5_method_19_code
def yX3_passMinute : MethodName := ⟨RX3, "passMinute", "()V"⟩
abbrev cX3_walk : ByteArray := prog_5_method_20_code
def yX3_walk : MethodName := ⟨RX3, "walk", "(LLockedAtDusk$Person;)V"⟩
abbrev cX3_goRound : ByteArray := prog_5_method_21_code
def yX3_goRound : MethodName := ⟨RX3, "goRound", "()V"⟩
abbrev cX3_ears : ByteArray := prog_5_method_22_code
def yX3_ears : MethodName := ⟨RX3, "ears", "(I)I"⟩
abbrev cX3_hears : ByteArray := prog_5_method_23_code
def yX3_hears : MethodName := ⟨RX3, "hears", "(I)Z"⟩
abbrev cX3_steps : ByteArray := prog_5_method_24_code
def yX3_steps : MethodName := ⟨RX3, "steps", "(LLockedAtDusk$Person;)I"⟩
abbrev cX3_goal : ByteArray := prog_5_method_25_code
def yX3_goal : MethodName := ⟨RX3, "goal", "(LLockedAtDusk$Person;)I"⟩
abbrev cX3_way : ByteArray := prog_5_method_26_code
def yX3_way : MethodName := ⟨RX3, "way", "(II)I"⟩
abbrev cX3_toward : ByteArray := prog_5_method_27_code
def yX3_toward : MethodName := ⟨RX3, "toward", "(III)I"⟩
def RX4 : String := "LockedAtDusk$Person"
def TX4 : u_T := fun k => match k with
  | 0 => ("LockedAtDusk$Person", "kind", "I", false)
  | 1 => ("LockedAtDusk$Person", "v", "I", false)
  | 2 => ("LockedAtDusk$Person", "place", "I", false)
  | 3 => ("LockedAtDusk$Person", "found", "I", false)
  | 4 => ("LockedAtDusk$Person", "called", "Z", false)
  | 5 => ("LockedAtDusk$Person", "out", "Z", false)
  | _ => ("LockedAtDusk$Person", "row", "[I", true)
def tyX4 : Nat → FieldType := fun k => match k with
  | 0 => .int
  | 1 => .int
  | 2 => .int
  | 3 => .int
  | 4 => .boolean
  | 5 => .boolean
  | _ => .array .int
abbrev wsX40 : List Cond := u_ws RX4 TX4 7
theorem nmX4 : ∀ a, a < 7 → ∀ b, b < 7 → a ≠ b → (TX4 a).2.1 ≠ (TX4 b).2.1 := by decide +kernel
theorem tyX4_ok : ∀ k, k < 7 → parseFieldDescriptor (TX4 k).2.2.1 = some (tyX4 k) := by decide +kernel
abbrev cX4_init : ByteArray := prog_6_method_1_code
def yX4_init : MethodName := ⟨RX4, "<init>", "()V"⟩
abbrev cX4_begin : ByteArray := prog_6_method_2_code
def yX4_begin : MethodName := ⟨RX4, "begin", "(III)V"⟩
abbrev cX4_copyFrom : ByteArray := prog_6_method_3_code
def yX4_copyFrom : MethodName := ⟨RX4, "copyFrom", "(LLockedAtDusk$Person;)V"⟩
def RX5 : String := "LockedAtDusk$Reader"
def TX5 : u_T := fun k => match k with
  | 0 => ("LockedAtDusk$Reader", "text", "[B", true)
  | 1 => ("LockedAtDusk$Reader", "length", "I", false)
  | 2 => ("LockedAtDusk$Reader", "at", "I", false)
  | _ => ("LockedAtDusk$Reader", "dusk", "LLockedAtDusk$Dusk;", false)
def tyX5 : Nat → FieldType := fun k => match k with
  | 0 => .array .byte
  | 1 => .int
  | 2 => .int
  | _ => .object "LockedAtDusk$Dusk"
abbrev wsX50 : List Cond := u_ws RX5 TX5 4
theorem nmX5 : ∀ a, a < 4 → ∀ b, b < 4 → a ≠ b → (TX5 a).2.1 ≠ (TX5 b).2.1 := by decide +kernel
theorem tyX5_ok : ∀ k, k < 4 → parseFieldDescriptor (TX5 k).2.2.1 = some (tyX5 k) := by decide +kernel
abbrev cX5_init : ByteArray := prog_7_method_1_code
def yX5_init : MethodName := ⟨RX5, "<init>", "()V"⟩
abbrev cX5_addSign : ByteArray := prog_7_method_2_code
def yX5_addSign : MethodName := ⟨RX5, "addSign", "(I)I"⟩
abbrev cX5_readInto : ByteArray := prog_7_method_3_code
def yX5_readInto : MethodName := ⟨RX5, "readInto", "(LLockedAtDusk$Dusk;)I"⟩
abbrev cX5_isNext : ByteArray := prog_7_method_4_code
def yX5_isNext : MethodName := ⟨RX5, "isNext", "(C)Z"⟩
abbrev cX5_skip : ByteArray := prog_7_method_5_code
def yX5_skip : MethodName := ⟨RX5, "skip", "(C)Z"⟩
abbrev cX5_readClause : ByteArray := prog_7_method_6_code
def yX5_readClause : MethodName := ⟨RX5, "readClause", "()Z"⟩
abbrev cX5_readWord : ByteArray := prog_7_method_7_code
def yX5_readWord : MethodName := ⟨RX5, "readWord", "(Ljava/lang/String;)Z"⟩
abbrev cX5_readNumber : ByteArray := prog_7_method_8_code
def yX5_readNumber : MethodName := ⟨RX5, "readNumber", "()I"⟩
abbrev cX5_readEither : ByteArray := prog_7_method_9_code
def yX5_readEither : MethodName := ⟨RX5, "readEither", "(I)Z"⟩
abbrev cX5_readBoth : ByteArray := prog_7_method_10_code
def yX5_readBoth : MethodName := ⟨RX5, "readBoth", "(I)Z"⟩
abbrev cX5_readPart : ByteArray := prog_7_method_11_code
def yX5_readPart : MethodName := ⟨RX5, "readPart", "(I)Z"⟩
abbrev cX5_readBehindNot : ByteArray := prog_7_method_12_code
def yX5_readBehindNot : MethodName := ⟨RX5, "readBehindNot", "(I)Z"⟩
abbrev cX5_readTest : ByteArray := prog_7_method_13_code
def yX5_readTest : MethodName := ⟨RX5, "readTest", "()Z"⟩
abbrev cX5_readOneOf : ByteArray := prog_7_method_14_code
def yX5_readOneOf : MethodName := ⟨RX5, "readOneOf", "(Ljava/lang/String;)I"⟩
def RX6 : String := "LockedAtDusk$Rows"
def TX6 : u_T := fun k => match k with
  | 0 => ("LockedAtDusk$Rows", "first", "[I", true)
  | 1 => ("LockedAtDusk$Rows", "second", "[I", true)
  | 2 => ("LockedAtDusk$Rows", "third", "[I", true)
  | _ => ("LockedAtDusk$Rows", "size", "I", false)
def tyX6 : Nat → FieldType := fun k => match k with
  | 0 => .array .int
  | 1 => .array .int
  | 2 => .array .int
  | _ => .int
abbrev wsX60 : List Cond := u_ws RX6 TX6 4
theorem nmX6 : ∀ a, a < 4 → ∀ b, b < 4 → a ≠ b → (TX6 a).2.1 ≠ (TX6 b).2.1 := by decide +kernel
theorem tyX6_ok : ∀ k, k < 4 → parseFieldDescriptor (TX6 k).2.2.1 = some (tyX6 k) := by decide +kernel
abbrev cX6_init : ByteArray := prog_8_method_1_code
def yX6_init : MethodName := ⟨RX6, "<init>", "(I)V"⟩
abbrev cX6_isFull : ByteArray := prog_8_method_2_code
def yX6_isFull : MethodName := ⟨RX6, "isFull", "()Z"⟩
abbrev cX6_addRow : ByteArray := prog_8_method_3_code
def yX6_addRow : MethodName := ⟨RX6, "addRow", "(III)I"⟩
abbrev cX6_copyFrom : ByteArray := prog_8_method_4_code
def yX6_copyFrom : MethodName := ⟨RX6, "copyFrom", "(LLockedAtDusk$Rows;)V"⟩
def RX7 : String := "LockedAtDusk$Tape"
def TX7 : u_T := fun k => match k with
  | 0 => ("LockedAtDusk$Tape", "items", "[J", true)
  | 1 => ("LockedAtDusk$Tape", "sort", "I", false)
  | _ => ("LockedAtDusk$Tape", "size", "I", false)
def tyX7 : Nat → FieldType := fun k => match k with
  | 0 => .array .long
  | 1 => .int
  | _ => .int
abbrev wsX70 : List Cond := u_ws RX7 TX7 3
theorem nmX7 : ∀ a, a < 3 → ∀ b, b < 3 → a ≠ b → (TX7 a).2.1 ≠ (TX7 b).2.1 := by decide +kernel
theorem tyX7_ok : ∀ k, k < 3 → parseFieldDescriptor (TX7 k).2.2.1 = some (tyX7 k) := by decide +kernel
abbrev cX7_init : ByteArray := prog_9_method_1_code
def yX7_init : MethodName := ⟨RX7, "<init>", "()V"⟩
abbrev cX7_become : ByteArray := prog_9_method_2_code
def yX7_become : MethodName := ⟨RX7, "become", "(II)V"⟩
abbrev cX7_hasItem : ByteArray := prog_9_method_3_code
def yX7_hasItem : MethodName := ⟨RX7, "hasItem", "(I)Z"⟩
abbrev cX7_hasItems : ByteArray := prog_9_method_4_code
def yX7_hasItems : MethodName := ⟨RX7, "hasItems", "(II)Z"⟩
abbrev cX7_narrowed : ByteArray := prog_9_method_5_code
def yX7_narrowed : MethodName := ⟨RX7, "narrowed", "(J)J"⟩
def RX8 : String := "LockedAtDusk"
def TX8 : u_T := fun k => match k with
  | 0 => ("LockedAtDusk", "now", "LLockedAtDusk$Park;", true)
  | 1 => ("LockedAtDusk", "trial", "LLockedAtDusk$Park;", true)
  | 2 => ("LockedAtDusk", "seen", "LLockedAtDusk$Rows;", true)
  | 3 => ("LockedAtDusk", "evening", "LLockedAtDusk$Rows;", true)
  | 4 => ("LockedAtDusk", "book", "LLockedAtDusk$Rows;", true)
  | 5 => ("LockedAtDusk", "image", "LLockedAtDusk$Image;", true)
  | 6 => ("LockedAtDusk", "reader", "LLockedAtDusk$Reader;", true)
  | 7 => ("LockedAtDusk", "dusks", "[LLockedAtDusk$Dusk;", true)
  | 8 => ("LockedAtDusk", "acts", "LLockedAtDusk$Acts;", true)
  | 9 => ("LockedAtDusk", "tapes", "[LLockedAtDusk$Tape;", true)
  | _ => ("LockedAtDusk", "duskCount", "I", false)
def tyX8 : Nat → FieldType := fun k => match k with
  | 0 => .object "LockedAtDusk$Park"
  | 1 => .object "LockedAtDusk$Park"
  | 2 => .object "LockedAtDusk$Rows"
  | 3 => .object "LockedAtDusk$Rows"
  | 4 => .object "LockedAtDusk$Rows"
  | 5 => .object "LockedAtDusk$Image"
  | 6 => .object "LockedAtDusk$Reader"
  | 7 => .array (.object "LockedAtDusk$Dusk")
  | 8 => .object "LockedAtDusk$Acts"
  | 9 => .array (.object "LockedAtDusk$Tape")
  | _ => .int
abbrev wsX80 : List Cond := u_ws RX8 TX8 11
theorem nmX8 : ∀ a, a < 11 → ∀ b, b < 11 → a ≠ b → (TX8 a).2.1 ≠ (TX8 b).2.1 := by decide +kernel
theorem tyX8_ok : ∀ k, k < 11 → parseFieldDescriptor (TX8 k).2.2.1 = some (tyX8 k) := by decide +kernel
abbrev cX8_init : ByteArray := prog_1_method_1_code
def yX8_init : MethodName := ⟨RX8, "<init>", "()V"⟩
abbrev cX8_gate : ByteArray := prog_1_method_2_code
def yX8_gate : MethodName := ⟨RX8, "gate", "(I)I"⟩
abbrev cX8_person : ByteArray := prog_1_method_3_code
def yX8_person : MethodName := ⟨RX8, "person", "(III)I"⟩
abbrev cX8_of : ByteArray := prog_1_method_4_code
def yX8_of : MethodName := ⟨RX8, "of", "(II)I"⟩
abbrev cX8_put : ByteArray := prog_1_method_5_code
def yX8_put : MethodName := ⟨RX8, "put", "(II)I"⟩
abbrev cX8_call : ByteArray := prog_1_method_6_code
def yX8_call : MethodName := ⟨RX8, "call", "(IZ)I"⟩
abbrev cX8_shut : ByteArray := prog_1_method_7_code
def yX8_shut : MethodName := ⟨RX8, "shut", "(IZ)I"⟩
abbrev cX8_row : ByteArray := prog_1_method_8_code
def yX8_row : MethodName := ⟨RX8, "row", "(III)I"⟩
abbrev cX8_round : ByteArray := prog_1_method_9_code
def yX8_round : MethodName := ⟨RX8, "round", "(I)I"⟩
abbrev cX8_feed : ByteArray := prog_1_method_10_code
def yX8_feed : MethodName := ⟨RX8, "feed", "(I)I"⟩
abbrev cX8_dusk : ByteArray := prog_1_method_11_code
def yX8_dusk : MethodName := ⟨RX8, "dusk", "()I"⟩
abbrev cX8_told : ByteArray := prog_1_method_12_code
def yX8_told : MethodName := ⟨RX8, "told", "(I)I"⟩
abbrev cX8_pass : ByteArray := prog_1_method_13_code
def yX8_pass : MethodName := ⟨RX8, "pass", "(I)I"⟩
abbrev cX8_on : ByteArray := prog_1_method_14_code
def yX8_on : MethodName := ⟨RX8, "on", "(II)I"⟩
abbrev cX8_clear : ByteArray := prog_1_method_15_code
def yX8_clear : MethodName := ⟨RX8, "clear", "()I"⟩
abbrev cX8_stay : ByteArray := prog_1_method_16_code
def yX8_stay : MethodName := ⟨RX8, "stay", "()I"⟩
abbrev cX8_best : ByteArray := prog_1_method_17_code
def yX8_best : MethodName := ⟨RX8, "best", "(I)I"⟩
abbrev cX8_bestChange : ByteArray := prog_1_method_18_code
def yX8_bestChange : MethodName := ⟨RX8, "bestChange", "(II)I"⟩
abbrev cX8_canChange : ByteArray := prog_1_method_19_code
def yX8_canChange : MethodName := ⟨RX8, "canChange", "(II)Z"⟩
abbrev cX8_makeChange : ByteArray := prog_1_method_20_code
def yX8_makeChange : MethodName := ⟨RX8, "makeChange", "(II)V"⟩
abbrev cX8_hides : ByteArray := prog_1_method_21_code
def yX8_hides : MethodName := ⟨RX8, "hides", "(I)I"⟩
abbrev cX8_see : ByteArray := prog_1_method_22_code
def yX8_see : MethodName := ⟨RX8, "see", "(IZI)I"⟩
abbrev cX8_where : ByteArray := prog_1_method_23_code
def yX8_where : MethodName := ⟨RX8, "where", "(II)I"⟩
abbrev cX8_can : ByteArray := prog_1_method_24_code
def yX8_can : MethodName := ⟨RX8, "can", "(II)I"⟩
abbrev cX8_trialIsAsSeen : ByteArray := prog_1_method_25_code
def yX8_trialIsAsSeen : MethodName := ⟨RX8, "trialIsAsSeen", "()Z"⟩
abbrev cX8_leastOf : ByteArray := prog_1_method_26_code
def yX8_leastOf : MethodName := ⟨RX8, "leastOf", "(I)I"⟩
abbrev cX8_odds : ByteArray := prog_1_method_27_code
def yX8_odds : MethodName := ⟨RX8, "odds", "(II)J"⟩
abbrev cX8_mean : ByteArray := prog_1_method_28_code
def yX8_mean : MethodName := ⟨RX8, "mean", "(II)J"⟩
abbrev cX8_fractionPart : ByteArray := prog_1_method_29_code
def yX8_fractionPart : MethodName := ⟨RX8, "fractionPart", "(III)J"⟩
abbrev cX8_commonDivisor : ByteArray := prog_1_method_30_code
def yX8_commonDivisor : MethodName := ⟨RX8, "commonDivisor", "(II)I"⟩
abbrev cX8_evening : ByteArray := prog_1_method_31_code
def yX8_evening : MethodName := ⟨RX8, "evening", "(II)I"⟩
abbrev cX8_gone : ByteArray := prog_1_method_32_code
def yX8_gone : MethodName := ⟨RX8, "gone", "(I)I"⟩
abbrev cX8_book : ByteArray := prog_1_method_33_code
def yX8_book : MethodName := ⟨RX8, "book", "(II)I"⟩
abbrev cX8_looked : ByteArray := prog_1_method_34_code
def yX8_looked : MethodName := ⟨RX8, "looked", "()I"⟩
abbrev cX8_judge : ByteArray := prog_1_method_35_code
def yX8_judge : MethodName := ⟨RX8, "judge", "(II)I"⟩
abbrev cX8_image : ByteArray := prog_1_method_36_code
def yX8_image : MethodName := ⟨RX8, "image", "()I"⟩
abbrev cX8_undo : ByteArray := prog_1_method_37_code
def yX8_undo : MethodName := ⟨RX8, "undo", "()I"⟩
abbrev cX8_act : ByteArray := prog_1_method_38_code
def yX8_act : MethodName := ⟨RX8, "act", "(III)I"⟩
abbrev cX8_trace : ByteArray := prog_1_method_39_code
def yX8_trace : MethodName := ⟨RX8, "trace", "(I)I"⟩
abbrev cX8_taken : ByteArray := prog_1_method_40_code
def yX8_taken : MethodName := ⟨RX8, "taken", "(II)I"⟩
abbrev cX8_isUnder : ByteArray := prog_1_method_41_code
def yX8_isUnder : MethodName := ⟨RX8, "isUnder", "(II)Z"⟩
abbrev cX8_count : ByteArray := prog_1_method_42_code
def yX8_count : MethodName := ⟨RX8, "count", "(I)I"⟩
abbrev cX8_tape : ByteArray := prog_1_method_43_code
def yX8_tape : MethodName := ⟨RX8, "tape", "(III)I"⟩
abbrev cX8_item : ByteArray := prog_1_method_44_code
def yX8_item : MethodName := ⟨RX8, "item", "(IIJ)I"⟩
abbrev cX8_read : ByteArray := prog_1_method_45_code
def yX8_read : MethodName := ⟨RX8, "read", "(II)J"⟩
abbrev cX8_shift : ByteArray := prog_1_method_46_code
def yX8_shift : MethodName := ⟨RX8, "shift", "(IIIII)I"⟩
abbrev cX8_isPlace : ByteArray := prog_1_method_47_code
def yX8_isPlace : MethodName := ⟨RX8, "isPlace", "(I)Z"⟩
abbrev cX8_isDigit : ByteArray := prog_1_method_48_code
def yX8_isDigit : MethodName := ⟨RX8, "isDigit", "(I)Z"⟩
abbrev cX8_isPart : ByteArray := prog_1_method_49_code
def yX8_isPart : MethodName := ⟨RX8, "isPart", "(I)Z"⟩
abbrev cX8_isTape : ByteArray := prog_1_method_50_code
def yX8_isTape : MethodName := ⟨RX8, "isTape", "(I)Z"⟩
abbrev cX8_bit : ByteArray := prog_1_method_51_code
def yX8_bit : MethodName := ⟨RX8, "bit", "(Z)I"⟩
def RX9 : String := "LockedAtDuskModel"
def TX9 : u_T := fun k => match k with
  | 0 => ("LockedAtDuskModel", "gates", "I", false)
  | 1 => ("LockedAtDuskModel", "people", "I", false)
  | 2 => ("LockedAtDuskModel", "minutes", "I", false)
  | 3 => ("LockedAtDuskModel", "closed", "I", false)
  | 4 => ("LockedAtDuskModel", "called", "I", false)
  | 5 => ("LockedAtDuskModel", "gone0", "I", false)
  | 6 => ("LockedAtDuskModel", "keeper", "I", false)
  | 7 => ("LockedAtDuskModel", "done", "I", false)
  | 8 => ("LockedAtDuskModel", "rounds", "I", false)
  | 9 => ("LockedAtDuskModel", "gateAt", "[I", true)
  | 10 => ("LockedAtDuskModel", "kind", "[I", true)
  | 11 => ("LockedAtDuskModel", "v", "[I", true)
  | 12 => ("LockedAtDuskModel", "where0", "[I", true)
  | 13 => ("LockedAtDuskModel", "found", "[I", true)
  | 14 => ("LockedAtDuskModel", "rows", "[I", true)
  | 15 => ("LockedAtDuskModel", "tour", "[I", true)
  | 16 => ("LockedAtDuskModel", "dusks", "I", false)
  | 17 => ("LockedAtDuskModel", "the", "I", false)
  | 18 => ("LockedAtDuskModel", "fed", "I", false)
  | 19 => ("LockedAtDuskModel", "at", "I", false)
  | 20 => ("LockedAtDuskModel", "digits", "I", false)
  | 21 => ("LockedAtDuskModel", "text", "[I", true)
  | 22 => ("LockedAtDuskModel", "clauses", "[I", true)
  | 23 => ("LockedAtDuskModel", "word", "[I", true)
  | 24 => ("LockedAtDuskModel", "number", "[I", true)
  | 25 => ("LockedAtDuskModel", "from", "[I", true)
  | 26 => ("LockedAtDuskModel", "to", "[I", true)
  | 27 => ("LockedAtDuskModel", "sign", "[I", true)
  | 28 => ("LockedAtDuskModel", "waits", "[I", true)
  | 29 => ("LockedAtDuskModel", "signs", "I", false)
  | 30 => ("LockedAtDuskModel", "waiting", "I", false)
  | 31 => ("LockedAtDuskModel", "open", "I", false)
  | 32 => ("LockedAtDuskModel", "letters", "[I", true)
  | 33 => ("LockedAtDuskModel", "paceInMind", "I", false)
  | 34 => ("LockedAtDuskModel", "waitInMind", "I", false)
  | 35 => ("LockedAtDuskModel", "openInMind", "I", false)
  | 36 => ("LockedAtDuskModel", "pile", "[Z", true)
  | 37 => ("LockedAtDuskModel", "thenAt", "[I", true)
  | 38 => ("LockedAtDuskModel", "thenCalled", "I", false)
  | 39 => ("LockedAtDuskModel", "thenGone", "I", false)
  | 40 => ("LockedAtDuskModel", "keptMinutes", "I", false)
  | 41 => ("LockedAtDuskModel", "keptClosed", "I", false)
  | 42 => ("LockedAtDuskModel", "keptCalled", "I", false)
  | 43 => ("LockedAtDuskModel", "keptGone", "I", false)
  | 44 => ("LockedAtDuskModel", "keptKeeper", "I", false)
  | 45 => ("LockedAtDuskModel", "keptDone", "I", false)
  | 46 => ("LockedAtDuskModel", "keptAt", "[I", true)
  | 47 => ("LockedAtDuskModel", "keptFound", "[I", true)
  | 48 => ("LockedAtDuskModel", "keptTour", "[I", true)
  | 49 => ("LockedAtDuskModel", "seen", "I", false)
  | 50 => ("LockedAtDuskModel", "seenWho", "[I", true)
  | 51 => ("LockedAtDuskModel", "seenWhen", "[I", true)
  | 52 => ("LockedAtDuskModel", "seenOut", "[Z", true)
  | 53 => ("LockedAtDuskModel", "evenings", "I", false)
  | 54 => ("LockedAtDuskModel", "books", "I", false)
  | 55 => ("LockedAtDuskModel", "eveningWhat", "[I", true)
  | 56 => ("LockedAtDuskModel", "eveningNumber", "[I", true)
  | 57 => ("LockedAtDuskModel", "bookWho", "[I", true)
  | 58 => ("LockedAtDuskModel", "bookAt", "[I", true)
  | 59 => ("LockedAtDuskModel", "hasImage", "Z", false)
  | 60 => ("LockedAtDuskModel", "imageThe", "I", false)
  | 61 => ("LockedAtDuskModel", "imageGates", "I", false)
  | 62 => ("LockedAtDuskModel", "imagePeople", "I", false)
  | 63 => ("LockedAtDuskModel", "imageMinutes", "I", false)
  | 64 => ("LockedAtDuskModel", "imageClosed", "I", false)
  | 65 => ("LockedAtDuskModel", "imageCalled", "I", false)
  | 66 => ("LockedAtDuskModel", "imageGone", "I", false)
  | 67 => ("LockedAtDuskModel", "imageKeeper", "I", false)
  | 68 => ("LockedAtDuskModel", "imageDone", "I", false)
  | 69 => ("LockedAtDuskModel", "imageRounds", "I", false)
  | 70 => ("LockedAtDuskModel", "imageSeen", "I", false)
  | 71 => ("LockedAtDuskModel", "imageEvenings", "I", false)
  | 72 => ("LockedAtDuskModel", "imageBooks", "I", false)
  | 73 => ("LockedAtDuskModel", "imageGateAt", "[I", true)
  | 74 => ("LockedAtDuskModel", "imageKind", "[I", true)
  | 75 => ("LockedAtDuskModel", "imageV", "[I", true)
  | 76 => ("LockedAtDuskModel", "imageAt", "[I", true)
  | 77 => ("LockedAtDuskModel", "imageFound", "[I", true)
  | 78 => ("LockedAtDuskModel", "imageTour", "[I", true)
  | 79 => ("LockedAtDuskModel", "imageRows", "[I", true)
  | 80 => ("LockedAtDuskModel", "imageWho", "[I", true)
  | 81 => ("LockedAtDuskModel", "imageWhen", "[I", true)
  | 82 => ("LockedAtDuskModel", "imageWhat", "[I", true)
  | 83 => ("LockedAtDuskModel", "imageNumber", "[I", true)
  | 84 => ("LockedAtDuskModel", "imageBookWho", "[I", true)
  | 85 => ("LockedAtDuskModel", "imageBookAt", "[I", true)
  | 86 => ("LockedAtDuskModel", "imageOut", "[Z", true)
  | 87 => ("LockedAtDuskModel", "ran", "I", false)
  | 88 => ("LockedAtDuskModel", "bodies", "[I", true)
  | 89 => ("LockedAtDuskModel", "sort", "[I", true)
  | 90 => ("LockedAtDuskModel", "length", "[I", true)
  | 91 => ("LockedAtDuskModel", "item", "[J", true)
  | _ => ("LockedAtDuskModel", "aside", "[J", true)
def tyX9 : Nat → FieldType := fun k => match k with
  | 0 => .int
  | 1 => .int
  | 2 => .int
  | 3 => .int
  | 4 => .int
  | 5 => .int
  | 6 => .int
  | 7 => .int
  | 8 => .int
  | 9 => .array .int
  | 10 => .array .int
  | 11 => .array .int
  | 12 => .array .int
  | 13 => .array .int
  | 14 => .array .int
  | 15 => .array .int
  | 16 => .int
  | 17 => .int
  | 18 => .int
  | 19 => .int
  | 20 => .int
  | 21 => .array .int
  | 22 => .array .int
  | 23 => .array .int
  | 24 => .array .int
  | 25 => .array .int
  | 26 => .array .int
  | 27 => .array .int
  | 28 => .array .int
  | 29 => .int
  | 30 => .int
  | 31 => .int
  | 32 => .array .int
  | 33 => .int
  | 34 => .int
  | 35 => .int
  | 36 => .array .boolean
  | 37 => .array .int
  | 38 => .int
  | 39 => .int
  | 40 => .int
  | 41 => .int
  | 42 => .int
  | 43 => .int
  | 44 => .int
  | 45 => .int
  | 46 => .array .int
  | 47 => .array .int
  | 48 => .array .int
  | 49 => .int
  | 50 => .array .int
  | 51 => .array .int
  | 52 => .array .boolean
  | 53 => .int
  | 54 => .int
  | 55 => .array .int
  | 56 => .array .int
  | 57 => .array .int
  | 58 => .array .int
  | 59 => .boolean
  | 60 => .int
  | 61 => .int
  | 62 => .int
  | 63 => .int
  | 64 => .int
  | 65 => .int
  | 66 => .int
  | 67 => .int
  | 68 => .int
  | 69 => .int
  | 70 => .int
  | 71 => .int
  | 72 => .int
  | 73 => .array .int
  | 74 => .array .int
  | 75 => .array .int
  | 76 => .array .int
  | 77 => .array .int
  | 78 => .array .int
  | 79 => .array .int
  | 80 => .array .int
  | 81 => .array .int
  | 82 => .array .int
  | 83 => .array .int
  | 84 => .array .int
  | 85 => .array .int
  | 86 => .array .boolean
  | 87 => .int
  | 88 => .array .int
  | 89 => .array .int
  | 90 => .array .int
  | 91 => .array .long
  | _ => .array .long
abbrev wsX90 : List Cond := u_ws RX9 TX9 93
theorem nmX9 : ∀ a, a < 93 → ∀ b, b < 93 → a ≠ b → (TX9 a).2.1 ≠ (TX9 b).2.1 := by decide +kernel
theorem tyX9_ok : ∀ k, k < 93 → parseFieldDescriptor (TX9 k).2.2.1 = some (tyX9 k) := by decide +kernel
abbrev cX9_init : ByteArray := prog_11_method_1_code
def yX9_init : MethodName := ⟨RX9, "<init>", "()V"⟩
abbrev cX9_in : ByteArray := prog_11_method_2_code
def yX9_in : MethodName := ⟨RX9, "in", "(III)Z"⟩
abbrev cX9_has : ByteArray := prog_11_method_3_code
def yX9_has : MethodName := ⟨RX9, "has", "(II)Z"⟩
abbrev cX9_with0 : ByteArray := prog_11_method_4_code
def yX9_with0 : MethodName := ⟨RX9, "with0", "(IIZ)I"⟩
abbrev cX9_ones : ByteArray := prog_11_method_5_code
def yX9_ones : MethodName := ⟨RX9, "ones", "(I)I"⟩
abbrev cX9_isGate : ByteArray := prog_11_method_6_code
def yX9_isGate : MethodName := ⟨RX9, "isGate", "(I)Z"⟩
abbrev cX9_isPerson : ByteArray := prog_11_method_7_code
def yX9_isPerson : MethodName := ⟨RX9, "isPerson", "(I)Z"⟩
abbrev cX9_isPlace : ByteArray := prog_11_method_8_code
def yX9_isPlace : MethodName := ⟨RX9, "isPlace", "(I)Z"⟩
abbrev cX9_isMinutes : ByteArray := prog_11_method_9_code
def yX9_isMinutes : MethodName := ⟨RX9, "isMinutes", "(I)Z"⟩
abbrev cX9_gate : ByteArray := prog_11_method_10_code
def yX9_gate : MethodName := ⟨RX9, "gate", "(I)I"⟩
abbrev cX9_person : ByteArray := prog_11_method_11_code
def yX9_person : MethodName := ⟨RX9, "person", "(III)I"⟩
abbrev cX9_puts : ByteArray := prog_11_method_12_code
def yX9_puts : MethodName := ⟨RX9, "puts", "(II)V"⟩
abbrev cX9_put : ByteArray := prog_11_method_13_code
def yX9_put : MethodName := ⟨RX9, "put", "(II)I"⟩
abbrev cX9_call : ByteArray := prog_11_method_14_code
def yX9_call : MethodName := ⟨RX9, "call", "(IZ)I"⟩
abbrev cX9_shut : ByteArray := prog_11_method_15_code
def yX9_shut : MethodName := ⟨RX9, "shut", "(IZ)I"⟩
abbrev cX9_row : ByteArray := prog_11_method_16_code
def yX9_row : MethodName := ⟨RX9, "row", "(III)I"⟩
abbrev cX9_round : ByteArray := prog_11_method_17_code
def yX9_round : MethodName := ⟨RX9, "round", "(I)I"⟩
abbrev cX9_feed : ByteArray := prog_11_method_18_code
def yX9_feed : MethodName := ⟨RX9, "feed", "(I)I"⟩
abbrev cX9_next : ByteArray := prog_11_method_19_code
def yX9_next : MethodName := ⟨RX9, "next", "()I"⟩
abbrev cX9_takes : ByteArray := prog_11_method_20_code
def yX9_takes : MethodName := ⟨RX9, "takes", "(I)Z"⟩
abbrev cX9_takesWord : ByteArray := prog_11_method_21_code
def yX9_takesWord : MethodName := ⟨RX9, "takesWord", "(II)Z"⟩
abbrev cX9_isDigit : ByteArray := prog_11_method_22_code
def yX9_isDigit : MethodName := ⟨RX9, "isDigit", "()Z"⟩
abbrev cX9_takesNumber : ByteArray := prog_11_method_23_code
def yX9_takesNumber : MethodName := ⟨RX9, "takesNumber", "()Z"⟩
abbrev cX9_emits : ByteArray := prog_11_method_24_code
def yX9_emits : MethodName := ⟨RX9, "emits", "(I)V"⟩
abbrev cX9_whole : ByteArray := prog_11_method_25_code
def yX9_whole : MethodName := ⟨RX9, "whole", "()V"⟩
abbrev cX9_settle : ByteArray := prog_11_method_26_code
def yX9_settle : MethodName := ⟨RX9, "settle", "(I)V"⟩
abbrev cX9_place : ByteArray := prog_11_method_27_code
def yX9_place : MethodName := ⟨RX9, "place", "(I)I"⟩
abbrev cX9_takesTest : ByteArray := prog_11_method_28_code
def yX9_takesTest : MethodName := ⟨RX9, "takesTest", "()Z"⟩
abbrev cX9_takesE : ByteArray := prog_11_method_29_code
def yX9_takesE : MethodName := ⟨RX9, "takesE", "(I)Z"⟩
abbrev cX9_takesHead : ByteArray := prog_11_method_30_code
def yX9_takesHead : MethodName := ⟨RX9, "takesHead", "(I)Z"⟩
abbrev cX9_takesClause : ByteArray := prog_11_method_31_code
def yX9_takesClause : MethodName := ⟨RX9, "takesClause", "(I)Z"⟩
abbrev cX9_goesText : ByteArray := prog_11_method_32_code
def yX9_goesText : MethodName := ⟨RX9, "goesText", "(I)Z"⟩
abbrev cX9_dusk : ByteArray := prog_11_method_33_code
def yX9_dusk : MethodName := ⟨RX9, "dusk", "()I"⟩
abbrev cX9_begin : ByteArray := prog_11_method_34_code
def yX9_begin : MethodName := ⟨RX9, "begin", "()I"⟩
abbrev cX9_behind : ByteArray := prog_11_method_35_code
def yX9_behind : MethodName := ⟨RX9, "behind", "()I"⟩
abbrev cX9_lastOf : ByteArray := prog_11_method_36_code
def yX9_lastOf : MethodName := ⟨RX9, "lastOf", "(II)I"⟩
abbrev cX9_pace : ByteArray := prog_11_method_37_code
def yX9_pace : MethodName := ⟨RX9, "pace", "()I"⟩
abbrev cX9_factOf : ByteArray := prog_11_method_38_code
def yX9_factOf : MethodName := ⟨RX9, "factOf", "(II)I"⟩
abbrev cX9_holds : ByteArray := prog_11_method_39_code
def yX9_holds : MethodName := ⟨RX9, "holds", "(II)Z"⟩
abbrev cX9_ears : ByteArray := prog_11_method_40_code
def yX9_ears : MethodName := ⟨RX9, "ears", "(I)I"⟩
abbrev cX9_up : ByteArray := prog_11_method_41_code
def yX9_up : MethodName := ⟨RX9, "up", "(II)I"⟩
abbrev cX9_way : ByteArray := prog_11_method_42_code
def yX9_way : MethodName := ⟨RX9, "way", "(II)I"⟩
abbrev cX9_toward : ByteArray := prog_11_method_43_code
def yX9_toward : MethodName := ⟨RX9, "toward", "(III)I"⟩
abbrev cX9_hears : ByteArray := prog_11_method_44_code
def yX9_hears : MethodName := ⟨RX9, "hears", "(I)Z"⟩
abbrev cX9_steps : ByteArray := prog_11_method_45_code
def yX9_steps : MethodName := ⟨RX9, "steps", "(I)I"⟩
abbrev cX9_goal : ByteArray := prog_11_method_46_code
def yX9_goal : MethodName := ⟨RX9, "goal", "(I)I"⟩
abbrev cX9_of : ByteArray := prog_11_method_47_code
def yX9_of : MethodName := ⟨RX9, "of", "(II)I"⟩
abbrev cX9_told : ByteArray := prog_11_method_48_code
def yX9_told : MethodName := ⟨RX9, "told", "(I)I"⟩
abbrev cX9_goPerson : ByteArray := prog_11_method_49_code
def yX9_goPerson : MethodName := ⟨RX9, "goPerson", "(I)V"⟩
abbrev cX9_goKeeper : ByteArray := prog_11_method_50_code
def yX9_goKeeper : MethodName := ⟨RX9, "goKeeper", "()V"⟩
abbrev cX9_goMinute : ByteArray := prog_11_method_51_code
def yX9_goMinute : MethodName := ⟨RX9, "goMinute", "()V"⟩
abbrev cX9_goMinutes : ByteArray := prog_11_method_52_code
def yX9_goMinutes : MethodName := ⟨RX9, "goMinutes", "(I)V"⟩
abbrev cX9_pass : ByteArray := prog_11_method_53_code
def yX9_pass : MethodName := ⟨RX9, "pass", "(I)I"⟩
abbrev cX9_save : ByteArray := prog_11_method_54_code
def yX9_save : MethodName := ⟨RX9, "save", "()V"⟩
abbrev cX9_putBack : ByteArray := prog_11_method_55_code
def yX9_putBack : MethodName := ⟨RX9, "putBack", "()V"⟩
abbrev cX9_on : ByteArray := prog_11_method_56_code
def yX9_on : MethodName := ⟨RX9, "on", "(II)I"⟩
abbrev cX9_all : ByteArray := prog_11_method_57_code
def yX9_all : MethodName := ⟨RX9, "all", "()I"⟩
abbrev cX9_clear : ByteArray := prog_11_method_58_code
def yX9_clear : MethodName := ⟨RX9, "clear", "()I"⟩
abbrev cX9_stay : ByteArray := prog_11_method_59_code
def yX9_stay : MethodName := ⟨RX9, "stay", "()I"⟩
abbrev cX9_leftThen : ByteArray := prog_11_method_60_code
def yX9_leftThen : MethodName := ⟨RX9, "leftThen", "()I"⟩
abbrev cX9_left : ByteArray := prog_11_method_61_code
def yX9_left : MethodName := ⟨RX9, "left", "()I"⟩
abbrev cX9_firstOf : ByteArray := prog_11_method_62_code
def yX9_firstOf : MethodName := ⟨RX9, "firstOf", "()I"⟩
abbrev cX9_swapOf : ByteArray := prog_11_method_63_code
def yX9_swapOf : MethodName := ⟨RX9, "swapOf", "()I"⟩
abbrev cX9_quickOf : ByteArray := prog_11_method_64_code
def yX9_quickOf : MethodName := ⟨RX9, "quickOf", "()I"⟩
abbrev cX9_waitOf : ByteArray := prog_11_method_65_code
def yX9_waitOf : MethodName := ⟨RX9, "waitOf", "()I"⟩
abbrev cX9_openOf : ByteArray := prog_11_method_66_code
def yX9_openOf : MethodName := ⟨RX9, "openOf", "()I"⟩
abbrev cX9_best : ByteArray := prog_11_method_67_code
def yX9_best : MethodName := ⟨RX9, "best", "(I)I"⟩
abbrev cX9_hides : ByteArray := prog_11_method_68_code
def yX9_hides : MethodName := ⟨RX9, "hides", "(I)I"⟩
abbrev cX9_see : ByteArray := prog_11_method_69_code
def yX9_see : MethodName := ⟨RX9, "see", "(IZI)I"⟩
abbrev cX9_isSeen : ByteArray := prog_11_method_70_code
def yX9_isSeen : MethodName := ⟨RX9, "isSeen", "(II)Z"⟩
abbrev cX9_where : ByteArray := prog_11_method_71_code
def yX9_where : MethodName := ⟨RX9, "where", "(II)I"⟩
abbrev cX9_can : ByteArray := prog_11_method_72_code
def yX9_can : MethodName := ⟨RX9, "can", "(II)I"⟩
abbrev cX9_divisor : ByteArray := prog_11_method_73_code
def yX9_divisor : MethodName := ⟨RX9, "divisor", "(II)I"⟩
abbrev cX9_lowest : ByteArray := prog_11_method_74_code
def yX9_lowest : MethodName := ⟨RX9, "lowest", "(III)J"⟩
abbrev cX9_odds : ByteArray := prog_11_method_75_code
def yX9_odds : MethodName := ⟨RX9, "odds", "(II)J"⟩
abbrev cX9_mean : ByteArray := prog_11_method_76_code
def yX9_mean : MethodName := ⟨RX9, "mean", "(II)J"⟩
abbrev cX9_evening : ByteArray := prog_11_method_77_code
def yX9_evening : MethodName := ⟨RX9, "evening", "(II)I"⟩
abbrev cX9_gone : ByteArray := prog_11_method_78_code
def yX9_gone : MethodName := ⟨RX9, "gone", "(I)I"⟩
abbrev cX9_book : ByteArray := prog_11_method_79_code
def yX9_book : MethodName := ⟨RX9, "book", "(II)I"⟩
abbrev cX9_looked : ByteArray := prog_11_method_80_code
def yX9_looked : MethodName := ⟨RX9, "looked", "()I"⟩
abbrev cX9_judge : ByteArray := prog_11_method_81_code
def yX9_judge : MethodName := ⟨RX9, "judge", "(II)I"⟩
abbrev cX9_image : ByteArray := prog_11_method_82_code
def yX9_image : MethodName := ⟨RX9, "image", "()I"⟩
abbrev cX9_undo : ByteArray := prog_11_method_83_code
def yX9_undo : MethodName := ⟨RX9, "undo", "()I"⟩
abbrev cX9_body : ByteArray := prog_11_method_84_code
def yX9_body : MethodName := ⟨RX9, "body", "(I)V"⟩
abbrev cX9_personWaits : ByteArray := prog_11_method_85_code
def yX9_personWaits : MethodName := ⟨RX9, "personWaits", "(II)I"⟩
abbrev cX9_waitsAct : ByteArray := prog_11_method_86_code
def yX9_waitsAct : MethodName := ⟨RX9, "waitsAct", "(II)I"⟩
abbrev cX9_personWalks : ByteArray := prog_11_method_87_code
def yX9_personWalks : MethodName := ⟨RX9, "personWalks", "(II)I"⟩
abbrev cX9_oldWalks : ByteArray := prog_11_method_88_code
def yX9_oldWalks : MethodName := ⟨RX9, "oldWalks", "(II)I"⟩
abbrev cX9_walksAct : ByteArray := prog_11_method_89_code
def yX9_walksAct : MethodName := ⟨RX9, "walksAct", "(II)I"⟩
abbrev cX9_personTells : ByteArray := prog_11_method_90_code
def yX9_personTells : MethodName := ⟨RX9, "personTells", "(II)I"⟩
abbrev cX9_tellsAct : ByteArray := prog_11_method_91_code
def yX9_tellsAct : MethodName := ⟨RX9, "tellsAct", "(II)I"⟩
abbrev cX9_act : ByteArray := prog_11_method_92_code
def yX9_act : MethodName := ⟨RX9, "act", "(III)I"⟩
abbrev cX9_trace : ByteArray := prog_11_method_93_code
def yX9_trace : MethodName := ⟨RX9, "trace", "(I)I"⟩
abbrev cX9_taken : ByteArray := prog_11_method_94_code
def yX9_taken : MethodName := ⟨RX9, "taken", "(II)I"⟩
abbrev cX9_count : ByteArray := prog_11_method_95_code
def yX9_count : MethodName := ⟨RX9, "count", "(I)I"⟩
abbrev cX9_isTape : ByteArray := prog_11_method_96_code
def yX9_isTape : MethodName := ⟨RX9, "isTape", "(I)Z"⟩
abbrev cX9_tape : ByteArray := prog_11_method_97_code
def yX9_tape : MethodName := ⟨RX9, "tape", "(III)I"⟩
abbrev cX9_narrow : ByteArray := prog_11_method_98_code
def yX9_narrow : MethodName := ⟨RX9, "narrow", "(IJ)J"⟩
abbrev cX9_item : ByteArray := prog_11_method_99_code
def yX9_item : MethodName := ⟨RX9, "item", "(IIJ)I"⟩
abbrev cX9_read : ByteArray := prog_11_method_100_code
def yX9_read : MethodName := ⟨RX9, "read", "(II)J"⟩
abbrev cX9_shift : ByteArray := prog_11_method_101_code
def yX9_shift : MethodName := ⟨RX9, "shift", "(IIIII)I"⟩
def RJ11 : String := "java/lang/Character"
def TJ11 : u_T := fun k => match k with
  | _ => ("", "", "", false)
def tyJ11 : Nat → FieldType := fun k => match k with
  | _ => .int
abbrev wsJ110 : List Cond := u_ws RJ11 TJ11 0
theorem nmJ11 : ∀ a, a < 0 → ∀ b, b < 0 → a ≠ b → (TJ11 a).2.1 ≠ (TJ11 b).2.1 := by decide +kernel
theorem tyJ11_ok : ∀ k, k < 0 → parseFieldDescriptor (TJ11 k).2.2.1 = some (tyJ11 k) := by decide +kernel
abbrev cJ11_isValidCodePoint_9a6ad : ByteArray := prog_12_method_11_code
def yJ11_isValidCodePoint_9a6ad : MethodName := ⟨RJ11, "isValidCodePoint", "(I)Z"⟩
abbrev cJ11_highSurrogate_5068e : ByteArray := prog_12_method_28_code
def yJ11_highSurrogate_5068e : MethodName := ⟨RJ11, "highSurrogate", "(I)C"⟩
abbrev cJ11_lowSurrogate_5068e : ByteArray := prog_12_method_29_code
def yJ11_lowSurrogate_5068e : MethodName := ⟨RJ11, "lowSurrogate", "(I)C"⟩
def RJ6 : String := "java/lang/Integer"
def TJ6 : u_T := fun k => match k with
  | _ => ("", "", "", false)
def tyJ6 : Nat → FieldType := fun k => match k with
  | _ => .int
abbrev wsJ60 : List Cond := u_ws RJ6 TJ6 0
theorem nmJ6 : ∀ a, a < 0 → ∀ b, b < 0 → a ≠ b → (TJ6 a).2.1 ≠ (TJ6 b).2.1 := by decide +kernel
theorem tyJ6_ok : ∀ k, k < 0 → parseFieldDescriptor (TJ6 k).2.2.1 = some (tyJ6 k) := by decide +kernel
abbrev cJ6_numberOfTrailingZeros_0f7a4 : ByteArray := prog_13_method_48_code
def yJ6_numberOfTrailingZeros_0f7a4 : MethodName := ⟨RJ6, "numberOfTrailingZeros", "(I)I"⟩
abbrev cJ6_bitCount_0f7a4 : ByteArray := prog_13_method_49_code
def yJ6_bitCount_0f7a4 : MethodName := ⟨RJ6, "bitCount", "(I)I"⟩
def RJ9 : String := "java/lang/Math"
def TJ9 : u_T := fun k => match k with
  | _ => ("", "", "", false)
def tyJ9 : Nat → FieldType := fun k => match k with
  | _ => .int
abbrev wsJ90 : List Cond := u_ws RJ9 TJ9 0
theorem nmJ9 : ∀ a, a < 0 → ∀ b, b < 0 → a ≠ b → (TJ9 a).2.1 ≠ (TJ9 b).2.1 := by decide +kernel
theorem tyJ9_ok : ∀ k, k < 0 → parseFieldDescriptor (TJ9 k).2.2.1 = some (tyJ9 k) := by decide +kernel
abbrev cJ9_floorMod_7cf53 : ByteArray := prog_14_method_50_code
def yJ9_floorMod_7cf53 : MethodName := ⟨RJ9, "floorMod", "(II)I"⟩
abbrev cJ9_max_7cf53 : ByteArray := prog_14_method_65_code
def yJ9_max_7cf53 : MethodName := ⟨RJ9, "max", "(II)I"⟩
abbrev cJ9_min_7cf53 : ByteArray := prog_14_method_69_code
def yJ9_min_7cf53 : MethodName := ⟨RJ9, "min", "(II)I"⟩
def RJ0 : String := "java/lang/String"
def TJ0 : u_T := fun k => match k with
  | _ => ("", "", "", false)
def tyJ0 : Nat → FieldType := fun k => match k with
  | _ => .int
abbrev wsJ00 : List Cond := u_ws RJ0 TJ0 0
theorem nmJ0 : ∀ a, a < 0 → ∀ b, b < 0 → a ≠ b → (TJ0 a).2.1 ≠ (TJ0 b).2.1 := by decide +kernel
theorem tyJ0_ok : ∀ k, k < 0 → parseFieldDescriptor (TJ0 k).2.2.1 = some (tyJ0 k) := by decide +kernel
abbrev cJ0_length_8abf5 : ByteArray := prog_15_method_54_code
def yJ0_length_8abf5 : MethodName := ⟨RJ0, "length", "()I"⟩
abbrev cJ0_charAt_5068e : ByteArray := prog_15_method_56_code
def yJ0_charAt_5068e : MethodName := ⟨RJ0, "charAt", "(I)C"⟩
abbrev cJ0_indexOf_0f7a4 : ByteArray := prog_15_method_79_code
def yJ0_indexOf_0f7a4 : MethodName := ⟨RJ0, "indexOf", "(I)I"⟩
abbrev cJ0_indexOf_7cf53 : ByteArray := prog_15_method_80_code
def yJ0_indexOf_7cf53 : MethodName := ⟨RJ0, "indexOf", "(II)I"⟩
abbrev cJ0_coder_7d493 : ByteArray := prog_15_method_152_code
def yJ0_coder_7d493 : MethodName := ⟨RJ0, "coder", "()B"⟩
abbrev cJ0_isLatin1_aae02 : ByteArray := prog_15_method_154_code
def yJ0_isLatin1_aae02 : MethodName := ⟨RJ0, "isLatin1", "()Z"⟩
abbrev cJ0_checkIndex_df160 : ByteArray := prog_15_method_155_code
def yJ0_checkIndex_df160 : MethodName := ⟨RJ0, "checkIndex", "(II)V"⟩
abbrev cJ0_checkBoundsBeginEnd_23922 : ByteArray := prog_15_method_158_code
def yJ0_checkBoundsBeginEnd_23922 : MethodName := ⟨RJ0, "checkBoundsBeginEnd", "(III)V"⟩
def RJ1 : String := "java/lang/StringLatin1"
def TJ1 : u_T := fun k => match k with
  | _ => ("", "", "", false)
def tyJ1 : Nat → FieldType := fun k => match k with
  | _ => .int
abbrev wsJ10 : List Cond := u_ws RJ1 TJ1 0
theorem nmJ1 : ∀ a, a < 0 → ∀ b, b < 0 → a ≠ b → (TJ1 a).2.1 ≠ (TJ1 b).2.1 := by decide +kernel
theorem tyJ1_ok : ∀ k, k < 0 → parseFieldDescriptor (TJ1 k).2.2.1 = some (tyJ1 k) := by decide +kernel
abbrev cJ1_charAt_3b067 : ByteArray := prog_16_method_2_code
def yJ1_charAt_3b067 : MethodName := ⟨RJ1, "charAt", "([BI)C"⟩
abbrev cJ1_canEncode_9a6ad : ByteArray := prog_16_method_4_code
def yJ1_canEncode_9a6ad : MethodName := ⟨RJ1, "canEncode", "(I)Z"⟩
abbrev cJ1_indexOf_4cfef : ByteArray := prog_16_method_22_code
def yJ1_indexOf_4cfef : MethodName := ⟨RJ1, "indexOf", "([BIII)I"⟩
abbrev cJ1_indexOfChar_4cfef : ByteArray := prog_16_method_23_code
def yJ1_indexOfChar_4cfef : MethodName := ⟨RJ1, "indexOfChar", "([BIII)I"⟩
def RJ2 : String := "java/lang/StringUTF16"
def TJ2 : u_T := fun k => match k with
  | _ => ("", "", "", false)
def tyJ2 : Nat → FieldType := fun k => match k with
  | _ => .int
abbrev wsJ20 : List Cond := u_ws RJ2 TJ2 0
theorem nmJ2 : ∀ a, a < 0 → ∀ b, b < 0 → a ≠ b → (TJ2 a).2.1 ≠ (TJ2 b).2.1 := by decide +kernel
theorem tyJ2_ok : ∀ k, k < 0 → parseFieldDescriptor (TJ2 k).2.2.1 = some (tyJ2 k) := by decide +kernel
abbrev cJ2_getChar_3b067 : ByteArray := prog_17_method_5_code
def yJ2_getChar_3b067 : MethodName := ⟨RJ2, "getChar", "([BI)C"⟩
abbrev cJ2_length_9d52b : ByteArray := prog_17_method_6_code
def yJ2_length_9d52b : MethodName := ⟨RJ2, "length", "([B)I"⟩
abbrev cJ2_indexOf_4cfef : ByteArray := prog_17_method_40_code
def yJ2_indexOf_4cfef : MethodName := ⟨RJ2, "indexOf", "([BIII)I"⟩
abbrev cJ2_indexOfChar_4cfef : ByteArray := prog_17_method_47_code
def yJ2_indexOfChar_4cfef : MethodName := ⟨RJ2, "indexOfChar", "([BIII)I"⟩
abbrev cJ2_indexOfCharUnsafe_4cfef : ByteArray := prog_17_method_48_code
def yJ2_indexOfCharUnsafe_4cfef : MethodName := ⟨RJ2, "indexOfCharUnsafe", "([BIII)I"⟩
abbrev cJ2_indexOfSupplementary_4cfef : ByteArray := prog_17_method_49_code
def yJ2_indexOfSupplementary_4cfef : MethodName := ⟨RJ2, "indexOfSupplementary", "([BIII)I"⟩
abbrev cJ2_charAt_3b067 : ByteArray := prog_17_method_83_code
def yJ2_charAt_3b067 : MethodName := ⟨RJ2, "charAt", "([BI)C"⟩
abbrev cJ2_checkIndex_2214a : ByteArray := prog_17_method_91_code
def yJ2_checkIndex_2214a : MethodName := ⟨RJ2, "checkIndex", "(I[B)V"⟩
abbrev cJ2_checkBoundsBeginEnd_d044e : ByteArray := prog_17_method_93_code
def yJ2_checkBoundsBeginEnd_d044e : MethodName := ⟨RJ2, "checkBoundsBeginEnd", "(II[B)V"⟩
def RJ10 : String := "java/lang/System"
def TJ10 : u_T := fun k => match k with
  | _ => ("", "", "", false)
def tyJ10 : Nat → FieldType := fun k => match k with
  | _ => .int
abbrev wsJ100 : List Cond := u_ws RJ10 TJ10 0
theorem nmJ10 : ∀ a, a < 0 → ∀ b, b < 0 → a ≠ b → (TJ10 a).2.1 ≠ (TJ10 b).2.1 := by decide +kernel
theorem tyJ10_ok : ∀ k, k < 0 → parseFieldDescriptor (TJ10 k).2.2.1 = some (tyJ10 k) := by decide +kernel
def RJ3 : String := "jdk/internal/util/Preconditions"
def TJ3 : u_T := fun k => match k with
  | _ => ("", "", "", false)
def tyJ3 : Nat → FieldType := fun k => match k with
  | _ => .int
abbrev wsJ30 : List Cond := u_ws RJ3 TJ3 0
theorem nmJ3 : ∀ a, a < 0 → ∀ b, b < 0 → a ≠ b → (TJ3 a).2.1 ≠ (TJ3 b).2.1 := by decide +kernel
theorem tyJ3_ok : ∀ k, k < 0 → parseFieldDescriptor (TJ3 k).2.2.1 = some (tyJ3 k) := by decide +kernel
abbrev cJ3_checkIndex_8e157 : ByteArray := prog_19_method_11_code
def yJ3_checkIndex_8e157 : MethodName := ⟨RJ3, "checkIndex", "(IILjava/util/function/BiFunction;)I"⟩
abbrev cJ3_checkFromToIndex_8c36e : ByteArray := prog_19_method_12_code
def yJ3_checkFromToIndex_8c36e : MethodName := ⟨RJ3, "checkFromToIndex", "(IIILjava/util/function/BiFunction;)I"⟩
def RL : String := "LockedAtDuskLaw"
abbrev cL_law : ByteArray := code
def yL_law : MethodName := ⟨RL, "law", "([I)Z"⟩
theorem inlX0 : ∀ w ∈ wsX00, w ∈ wsL_law := fun _ h => List.mem_append_left _ (List.mem_append_left _ (List.mem_append_left _ (List.mem_append_left _ (List.mem_append_right _ h))))
theorem inX0 : ∀ w ∈ wsX00, w ∈ lw_tbl := fun w h => wsL_law_in w (inlX0 w h)
theorem inlX1 : ∀ w ∈ wsX10, w ∈ wsL_law := fun _ h => List.mem_append_left _ (List.mem_append_left _ (List.mem_append_left _ (List.mem_append_right _ h)))
theorem inX1 : ∀ w ∈ wsX10, w ∈ lw_tbl := fun w h => wsL_law_in w (inlX1 w h)
theorem inlX2 : ∀ w ∈ wsX20, w ∈ wsL_law := fun _ h => List.mem_append_left _ (List.mem_append_left _ (List.mem_append_left _ (List.mem_append_left _ (List.mem_append_left _ (List.mem_append_left _ (List.mem_append_right _ h))))))
theorem inX2 : ∀ w ∈ wsX20, w ∈ lw_tbl := fun w h => wsL_law_in w (inlX2 w h)
theorem inlX3 : ∀ w ∈ wsX30, w ∈ wsL_law := fun _ h => List.mem_append_left _ (List.mem_append_left _ (List.mem_append_left _ (List.mem_append_left _ (List.mem_append_left _ (List.mem_append_left _ (List.mem_append_left _ (List.mem_append_left _ (List.mem_append_right _ h))))))))
theorem inX3 : ∀ w ∈ wsX30, w ∈ lw_tbl := fun w h => wsL_law_in w (inlX3 w h)
theorem inlX4 : ∀ w ∈ wsX40, w ∈ wsL_law := fun _ h => List.mem_append_left _ (List.mem_append_right _ h)
theorem inX4 : ∀ w ∈ wsX40, w ∈ lw_tbl := fun w h => wsL_law_in w (inlX4 w h)
theorem inlX5 : ∀ w ∈ wsX50, w ∈ wsL_law := fun _ h => List.mem_append_left _ (List.mem_append_left _ (List.mem_append_left _ (List.mem_append_left _ (List.mem_append_left _ (List.mem_append_right _ h)))))
theorem inX5 : ∀ w ∈ wsX50, w ∈ lw_tbl := fun w h => wsL_law_in w (inlX5 w h)
theorem inlX6 : ∀ w ∈ wsX60, w ∈ wsL_law := fun _ h => List.mem_append_left _ (List.mem_append_left _ (List.mem_append_left _ (List.mem_append_left _ (List.mem_append_left _ (List.mem_append_left _ (List.mem_append_left _ (List.mem_append_right _ h)))))))
theorem inX6 : ∀ w ∈ wsX60, w ∈ lw_tbl := fun w h => wsL_law_in w (inlX6 w h)
theorem inlX7 : ∀ w ∈ wsX70, w ∈ wsL_law := fun _ h => List.mem_append_left _ (List.mem_append_left _ (List.mem_append_right _ h))
theorem inX7 : ∀ w ∈ wsX70, w ∈ lw_tbl := fun w h => wsL_law_in w (inlX7 w h)
theorem inlX8 : ∀ w ∈ wsX80, w ∈ wsL_law := fun _ h => List.mem_append_left _ (List.mem_append_left _ (List.mem_append_left _ (List.mem_append_left _ (List.mem_append_left _ (List.mem_append_left _ (List.mem_append_left _ (List.mem_append_left _ (List.mem_append_left _ (List.mem_append_left _ (List.mem_append_right _ h))))))))))
theorem inX8 : ∀ w ∈ wsX80, w ∈ lw_tbl := fun w h => wsL_law_in w (inlX8 w h)
theorem inlX9 : ∀ w ∈ wsX90, w ∈ wsL_law := fun _ h => List.mem_append_left _ (List.mem_append_left _ (List.mem_append_left _ (List.mem_append_left _ (List.mem_append_left _ (List.mem_append_left _ (List.mem_append_left _ (List.mem_append_left _ (List.mem_append_left _ (List.mem_append_right _ h)))))))))
theorem inX9 : ∀ w ∈ wsX90, w ∈ lw_tbl := fun w h => wsL_law_in w (inlX9 w h)
theorem inJ11 : ∀ w ∈ wsJ110, w ∈ lw_tbl := by decide +kernel
theorem inJ6 : ∀ w ∈ wsJ60, w ∈ lw_tbl := by decide +kernel
theorem inJ9 : ∀ w ∈ wsJ90, w ∈ lw_tbl := by decide +kernel
theorem inJ0 : ∀ w ∈ wsJ00, w ∈ lw_tbl := by decide +kernel
theorem inJ1 : ∀ w ∈ wsJ10, w ∈ lw_tbl := by decide +kernel
theorem inJ2 : ∀ w ∈ wsJ20, w ∈ lw_tbl := by decide +kernel
theorem inJ10 : ∀ w ∈ wsJ100, w ∈ lw_tbl := by decide +kernel
theorem inJ3 : ∀ w ∈ wsJ30, w ∈ lw_tbl := by decide +kernel
abbrev vwCl : List vw_C := [(RX0, TX0, 5), (RX1, TX1, 4), (RX2, TX2, 5), (RX3, TX3, 15), (RX4, TX4, 7), (RX5, TX5, 4), (RX6, TX6, 4), (RX7, TX7, 3), (RX8, TX8, 11), (RX9, TX9, 93)]
def wsL_law_r1 : List Cond := [Cond.classLink RL 7 RX8, Cond.instantiable RX8 11, Cond.initialized RX8, Cond.classLink RL 10 RX9, Cond.instantiable RX9 93, Cond.initialized RX9, Cond.constantLong RL 156 (4294967295), Cond.methodLink RL 9 yX8_init, Cond.instanceMethod yX8_init, Cond.code yX8_init cX8_init 2 none, Cond.methodLink RX8 3 objectInit, Cond.instanceMethod objectInit, Cond.code objectInit ⟨#[0xb1]⟩ 1 none, Cond.classLink RX8 9 RX3, Cond.instantiable RX3 15, Cond.initialized RX3, Cond.fieldLink RX8 12 "LockedAtDusk" "now" "LLockedAtDusk$Park;", Cond.fieldLink RX8 18 "LockedAtDusk" "trial" "LLockedAtDusk$Park;", Cond.classLink RX8 21 RX6, Cond.instantiable RX6 4, Cond.initialized RX6, Cond.fieldLink RX8 26 "LockedAtDusk" "seen" "LLockedAtDusk$Rows;", Cond.fieldLink RX8 30 "LockedAtDusk" "evening" "LLockedAtDusk$Rows;", Cond.fieldLink RX8 33 "LockedAtDusk" "book" "LLockedAtDusk$Rows;"]
def wsL_law_r2 : List Cond := [Cond.classLink RX8 36 RX2, Cond.instantiable RX2 5, Cond.initialized RX2, Cond.fieldLink RX8 39 "LockedAtDusk" "image" "LLockedAtDusk$Image;", Cond.classLink RX8 43 RX5, Cond.instantiable RX5 4, Cond.initialized RX5, Cond.fieldLink RX8 46 "LockedAtDusk" "reader" "LLockedAtDusk$Reader;", Cond.classLink RX8 50 RX1, Cond.fieldLink RX8 52 "LockedAtDusk" "dusks" "[LLockedAtDusk$Dusk;", Cond.classLink RX8 56 RX0, Cond.instantiable RX0 5, Cond.initialized RX0, Cond.fieldLink RX8 59 "LockedAtDusk" "acts" "LLockedAtDusk$Acts;", Cond.classLink RX8 63 RX7, Cond.fieldLink RX8 65 "LockedAtDusk" "tapes" "[LLockedAtDusk$Tape;", Cond.instantiable RX1 4, Cond.initialized RX1, Cond.instantiable RX7 3, Cond.initialized RX7, Cond.methodLink RX8 11 yX3_init, Cond.instanceMethod yX3_init, Cond.code yX3_init cX3_init 2 none, Cond.methodLink RX3 3 objectInit]
def wsL_law_r3 : List Cond := [Cond.arrayClass .int, Cond.fieldLink RX3 9 "LockedAtDusk$Park" "gatePlaces" "[I", Cond.classLink RX3 15 RX4, Cond.fieldLink RX3 17 "LockedAtDusk$Park" "persons" "[LLockedAtDusk$Person;", Cond.fieldLink RX3 21 "LockedAtDusk$Park" "round" "[I", Cond.fieldLink RX3 26 "LockedAtDusk$Park" "facts" "[I", Cond.classLink RX3 24 RX1, Cond.fieldLink RX3 30 "LockedAtDusk$Park" "dusk" "LLockedAtDusk$Dusk;", Cond.fieldLink RX3 34 "LockedAtDusk$Park" "openGate" "I", Cond.instantiable RX4 7, Cond.initialized RX4, Cond.instanceMethod yX1_init, Cond.code yX1_init cX1_init 1 none, Cond.methodLink RX1 3 objectInit, Cond.fieldLink RX1 9 "LockedAtDusk$Dusk" "codes" "[I", Cond.fieldLink RX1 15 "LockedAtDusk$Dusk" "bell" "I", Cond.fieldLink RX1 19 "LockedAtDusk$Dusk" "pace" "I", Cond.instanceMethod yX4_init, Cond.code yX4_init cX4_init 1 none, Cond.methodLink RX4 3 objectInit, Cond.fieldLink RX4 9 "LockedAtDusk$Person" "row" "[I", Cond.methodLink RX8 23 yX6_init, Cond.instanceMethod yX6_init, Cond.code yX6_init cX6_init 2 none]
def wsL_law_r4 : List Cond := [Cond.methodLink RX6 1 objectInit, Cond.fieldLink RX6 7 "LockedAtDusk$Rows" "first" "[I", Cond.fieldLink RX6 13 "LockedAtDusk$Rows" "second" "[I", Cond.fieldLink RX6 16 "LockedAtDusk$Rows" "third" "[I", Cond.instanceMethod yX2_init, Cond.code yX2_init cX2_init 1 none, Cond.methodLink RX2 3 objectInit, Cond.classLink RX2 9 RX3, Cond.fieldLink RX2 12 "LockedAtDusk$Image" "park" "LLockedAtDusk$Park;", Cond.classLink RX2 18 RX6, Cond.fieldLink RX2 23 "LockedAtDusk$Image" "seen" "LLockedAtDusk$Rows;", Cond.fieldLink RX2 27 "LockedAtDusk$Image" "evening" "LLockedAtDusk$Rows;", Cond.fieldLink RX2 30 "LockedAtDusk$Image" "book" "LLockedAtDusk$Rows;", Cond.methodLink RX2 11 yX3_init, Cond.methodLink RX2 20 yX6_init, Cond.instanceMethod yX5_init, Cond.code yX5_init cX5_init 1 none, Cond.methodLink RX5 3 objectInit, Cond.arrayClass .byte, Cond.fieldLink RX5 9 "LockedAtDusk$Reader" "text" "[B", Cond.classLink RX5 15 RX1, Cond.fieldLink RX5 18 "LockedAtDusk$Reader" "dusk" "LLockedAtDusk$Dusk;", Cond.instanceMethod yX0_init, Cond.code yX0_init cX0_init 1 none]
def wsL_law_r5 : List Cond := [Cond.methodLink RX0 3 objectInit, Cond.fieldLink RX0 9 "LockedAtDusk$Acts" "trace" "[I", Cond.instanceMethod yX7_init, Cond.code yX7_init cX7_init 1 none, Cond.methodLink RX7 3 objectInit, Cond.arrayClass .long, Cond.fieldLink RX7 9 "LockedAtDusk$Tape" "items" "[J", Cond.fieldLink RX7 15 "LockedAtDusk$Tape" "sort" "I", Cond.methodLink RL 12 yX9_init, Cond.instanceMethod yX9_init, Cond.code yX9_init cX9_init 1 none, Cond.methodLink RX9 1 objectInit, Cond.fieldLink RX9 7 "LockedAtDuskModel" "gates" "I", Cond.fieldLink RX9 13 "LockedAtDuskModel" "people" "I", Cond.fieldLink RX9 16 "LockedAtDuskModel" "minutes" "I", Cond.fieldLink RX9 19 "LockedAtDuskModel" "closed" "I", Cond.fieldLink RX9 22 "LockedAtDuskModel" "called" "I", Cond.fieldLink RX9 25 "LockedAtDuskModel" "gone0" "I", Cond.fieldLink RX9 28 "LockedAtDuskModel" "keeper" "I", Cond.fieldLink RX9 31 "LockedAtDuskModel" "done" "I", Cond.fieldLink RX9 34 "LockedAtDuskModel" "rounds" "I", Cond.fieldLink RX9 37 "LockedAtDuskModel" "gateAt" "[I", Cond.fieldLink RX9 41 "LockedAtDuskModel" "kind" "[I", Cond.fieldLink RX9 44 "LockedAtDuskModel" "v" "[I"]
def wsL_law_r6 : List Cond := [Cond.fieldLink RX9 47 "LockedAtDuskModel" "where0" "[I", Cond.fieldLink RX9 50 "LockedAtDuskModel" "found" "[I", Cond.fieldLink RX9 53 "LockedAtDuskModel" "rows" "[I", Cond.fieldLink RX9 56 "LockedAtDuskModel" "tour" "[I", Cond.fieldLink RX9 59 "LockedAtDuskModel" "dusks" "I", Cond.fieldLink RX9 62 "LockedAtDuskModel" "the" "I", Cond.fieldLink RX9 65 "LockedAtDuskModel" "fed" "I", Cond.fieldLink RX9 68 "LockedAtDuskModel" "at" "I", Cond.fieldLink RX9 71 "LockedAtDuskModel" "digits" "I", Cond.fieldLink RX9 74 "LockedAtDuskModel" "text" "[I", Cond.fieldLink RX9 77 "LockedAtDuskModel" "clauses" "[I", Cond.fieldLink RX9 80 "LockedAtDuskModel" "word" "[I", Cond.fieldLink RX9 83 "LockedAtDuskModel" "number" "[I", Cond.fieldLink RX9 86 "LockedAtDuskModel" "from" "[I", Cond.fieldLink RX9 89 "LockedAtDuskModel" "to" "[I", Cond.fieldLink RX9 92 "LockedAtDuskModel" "sign" "[I", Cond.fieldLink RX9 95 "LockedAtDuskModel" "waits" "[I", Cond.fieldLink RX9 98 "LockedAtDuskModel" "signs" "I", Cond.fieldLink RX9 101 "LockedAtDuskModel" "waiting" "I", Cond.fieldLink RX9 104 "LockedAtDuskModel" "open" "I", Cond.fieldLink RX9 107 "LockedAtDuskModel" "letters" "[I", Cond.fieldLink RX9 110 "LockedAtDuskModel" "paceInMind" "I", Cond.fieldLink RX9 113 "LockedAtDuskModel" "waitInMind" "I", Cond.fieldLink RX9 116 "LockedAtDuskModel" "openInMind" "I"]
def wsL_law_r7 : List Cond := [Cond.arrayClass .boolean, Cond.fieldLink RX9 119 "LockedAtDuskModel" "pile" "[Z", Cond.fieldLink RX9 123 "LockedAtDuskModel" "thenAt" "[I", Cond.fieldLink RX9 126 "LockedAtDuskModel" "thenCalled" "I", Cond.fieldLink RX9 129 "LockedAtDuskModel" "thenGone" "I", Cond.fieldLink RX9 132 "LockedAtDuskModel" "keptMinutes" "I", Cond.fieldLink RX9 135 "LockedAtDuskModel" "keptClosed" "I", Cond.fieldLink RX9 138 "LockedAtDuskModel" "keptCalled" "I", Cond.fieldLink RX9 141 "LockedAtDuskModel" "keptGone" "I", Cond.fieldLink RX9 144 "LockedAtDuskModel" "keptKeeper" "I", Cond.fieldLink RX9 147 "LockedAtDuskModel" "keptDone" "I", Cond.fieldLink RX9 150 "LockedAtDuskModel" "keptAt" "[I", Cond.fieldLink RX9 153 "LockedAtDuskModel" "keptFound" "[I", Cond.fieldLink RX9 156 "LockedAtDuskModel" "keptTour" "[I", Cond.fieldLink RX9 159 "LockedAtDuskModel" "seen" "I", Cond.fieldLink RX9 162 "LockedAtDuskModel" "seenWho" "[I", Cond.fieldLink RX9 165 "LockedAtDuskModel" "seenWhen" "[I", Cond.fieldLink RX9 168 "LockedAtDuskModel" "seenOut" "[Z", Cond.fieldLink RX9 171 "LockedAtDuskModel" "evenings" "I", Cond.fieldLink RX9 174 "LockedAtDuskModel" "books" "I", Cond.fieldLink RX9 177 "LockedAtDuskModel" "eveningWhat" "[I", Cond.fieldLink RX9 180 "LockedAtDuskModel" "eveningNumber" "[I", Cond.fieldLink RX9 183 "LockedAtDuskModel" "bookWho" "[I", Cond.fieldLink RX9 186 "LockedAtDuskModel" "bookAt" "[I"]
def wsL_law_r8 : List Cond := [Cond.fieldLink RX9 189 "LockedAtDuskModel" "hasImage" "Z", Cond.fieldLink RX9 193 "LockedAtDuskModel" "imageThe" "I", Cond.fieldLink RX9 196 "LockedAtDuskModel" "imageGates" "I", Cond.fieldLink RX9 199 "LockedAtDuskModel" "imagePeople" "I", Cond.fieldLink RX9 202 "LockedAtDuskModel" "imageMinutes" "I", Cond.fieldLink RX9 205 "LockedAtDuskModel" "imageClosed" "I", Cond.fieldLink RX9 208 "LockedAtDuskModel" "imageCalled" "I", Cond.fieldLink RX9 211 "LockedAtDuskModel" "imageGone" "I", Cond.fieldLink RX9 214 "LockedAtDuskModel" "imageKeeper" "I", Cond.fieldLink RX9 217 "LockedAtDuskModel" "imageDone" "I", Cond.fieldLink RX9 220 "LockedAtDuskModel" "imageRounds" "I", Cond.fieldLink RX9 223 "LockedAtDuskModel" "imageSeen" "I", Cond.fieldLink RX9 226 "LockedAtDuskModel" "imageEvenings" "I", Cond.fieldLink RX9 229 "LockedAtDuskModel" "imageBooks" "I", Cond.fieldLink RX9 232 "LockedAtDuskModel" "imageGateAt" "[I", Cond.fieldLink RX9 235 "LockedAtDuskModel" "imageKind" "[I", Cond.fieldLink RX9 238 "LockedAtDuskModel" "imageV" "[I", Cond.fieldLink RX9 241 "LockedAtDuskModel" "imageAt" "[I", Cond.fieldLink RX9 244 "LockedAtDuskModel" "imageFound" "[I", Cond.fieldLink RX9 247 "LockedAtDuskModel" "imageTour" "[I", Cond.fieldLink RX9 250 "LockedAtDuskModel" "imageRows" "[I", Cond.fieldLink RX9 253 "LockedAtDuskModel" "imageWho" "[I", Cond.fieldLink RX9 256 "LockedAtDuskModel" "imageWhen" "[I", Cond.fieldLink RX9 259 "LockedAtDuskModel" "imageWhat" "[I"]
def wsL_law_r9 : List Cond := [Cond.fieldLink RX9 262 "LockedAtDuskModel" "imageNumber" "[I", Cond.fieldLink RX9 265 "LockedAtDuskModel" "imageBookWho" "[I", Cond.fieldLink RX9 268 "LockedAtDuskModel" "imageBookAt" "[I", Cond.fieldLink RX9 271 "LockedAtDuskModel" "imageOut" "[Z", Cond.fieldLink RX9 274 "LockedAtDuskModel" "ran" "I", Cond.fieldLink RX9 277 "LockedAtDuskModel" "bodies" "[I", Cond.fieldLink RX9 280 "LockedAtDuskModel" "sort" "[I", Cond.fieldLink RX9 283 "LockedAtDuskModel" "length" "[I", Cond.fieldLink RX9 286 "LockedAtDuskModel" "item" "[J", Cond.fieldLink RX9 290 "LockedAtDuskModel" "aside" "[J", Cond.methodLink RL 13 yX8_gate, Cond.instanceMethod yX8_gate, Cond.selects RX8 yX8_gate yX8_gate, Cond.code yX8_gate cX8_gate 2 (some .int), Cond.fieldLink RX8 75 "LockedAtDusk$Park" "gates" "I", Cond.methodLink RX8 71 yX8_isPlace, Cond.static yX8_isPlace, Cond.code yX8_isPlace cX8_isPlace 1 (some .boolean), Cond.methodLink RX8 79 yX3_addGate, Cond.instanceMethod yX3_addGate, Cond.selects RX3 yX3_addGate yX3_addGate, Cond.code yX3_addGate cX3_addGate 2 (some .int), Cond.fieldLink RX3 52 "LockedAtDusk$Park" "gates" "I", Cond.methodLink RL 17 yX9_gate]
def wsL_law_r10 : List Cond := [Cond.instanceMethod yX9_gate, Cond.selects RX9 yX9_gate yX9_gate, Cond.code yX9_gate cX9_gate 2 (some .int), Cond.methodLink RX9 297 yX9_isPlace, Cond.instanceMethod yX9_isPlace, Cond.selects RX9 yX9_isPlace yX9_isPlace, Cond.code yX9_isPlace cX9_isPlace 2 (some .boolean), Cond.methodLink RX9 293 yX9_in, Cond.instanceMethod yX9_in, Cond.selects RX9 yX9_in yX9_in, Cond.code yX9_in cX9_in 4 (some .boolean), Cond.methodLink RX9 301 yX9_with0, Cond.instanceMethod yX9_with0, Cond.selects RX9 yX9_with0 yX9_with0, Cond.code yX9_with0 cX9_with0 4 (some .int), Cond.methodLink RL 18 yX8_person, Cond.instanceMethod yX8_person, Cond.selects RX8 yX8_person yX8_person, Cond.code yX8_person cX8_person 4 (some .int), Cond.fieldLink RX8 86 "LockedAtDusk$Park" "people" "I", Cond.methodLink RX8 83 yX8_isDigit, Cond.static yX8_isDigit, Cond.code yX8_isDigit cX8_isDigit 1 (some .boolean), Cond.methodLink RX8 89 yX3_addPerson]
def wsL_law_r11 : List Cond := [Cond.instanceMethod yX3_addPerson, Cond.selects RX3 yX3_addPerson yX3_addPerson, Cond.code yX3_addPerson cX3_addPerson 4 (some .int), Cond.fieldLink RX3 45 "LockedAtDusk$Park" "people" "I", Cond.methodLink RX3 76 yX4_begin, Cond.instanceMethod yX4_begin, Cond.selects RX4 yX4_begin yX4_begin, Cond.code yX4_begin cX4_begin 5 none, Cond.fieldLink RX4 15 "LockedAtDusk$Person" "kind" "I", Cond.fieldLink RX4 19 "LockedAtDusk$Person" "v" "I", Cond.fieldLink RX4 22 "LockedAtDusk$Person" "place" "I", Cond.fieldLink RX4 25 "LockedAtDusk$Person" "found" "I", Cond.fieldLink RX4 28 "LockedAtDusk$Person" "called" "Z", Cond.fieldLink RX4 32 "LockedAtDusk$Person" "out" "Z", Cond.methodLink RL 22 yX9_person, Cond.instanceMethod yX9_person, Cond.selects RX9 yX9_person yX9_person, Cond.code yX9_person cX9_person 5 (some .int), Cond.methodLink RL 23 yX8_of, Cond.instanceMethod yX8_of, Cond.selects RX8 yX8_of yX8_of, Cond.code yX8_of cX8_of 4 (some .int), Cond.fieldLink RX8 96 "LockedAtDusk$Park" "persons" "[LLockedAtDusk$Person;", Cond.fieldLink RX8 100 "LockedAtDusk$Person" "kind" "I"]
def wsL_law_r12 : List Cond := [Cond.fieldLink RX8 105 "LockedAtDusk$Person" "v" "I", Cond.fieldLink RX8 108 "LockedAtDusk$Person" "place" "I", Cond.fieldLink RX8 111 "LockedAtDusk$Person" "called" "Z", Cond.fieldLink RX8 119 "LockedAtDusk$Person" "found" "I", Cond.fieldLink RX8 122 "LockedAtDusk$Person" "out" "Z", Cond.methodLink RX8 93 yX3_hasPerson, Cond.instanceMethod yX3_hasPerson, Cond.selects RX3 yX3_hasPerson yX3_hasPerson, Cond.code yX3_hasPerson cX3_hasPerson 2 (some .boolean), Cond.methodLink RX8 115 yX8_bit, Cond.static yX8_bit, Cond.code yX8_bit cX8_bit 1 (some .int), Cond.methodLink RX8 125 yX3_ears, Cond.instanceMethod yX3_ears, Cond.selects RX3 yX3_ears yX3_ears, Cond.code yX3_ears cX3_ears 3 (some .int), Cond.fieldLink RX3 143 "LockedAtDusk$Person" "kind" "I", Cond.fieldLink RX3 146 "LockedAtDusk$Person" "v" "I", Cond.fieldLink RX3 80 "LockedAtDusk$Person" "place" "I", Cond.fieldLink RX3 137 "LockedAtDusk$Person" "found" "I", Cond.fieldLink RX3 67 "LockedAtDusk$Park" "minute" "I", Cond.methodLink RX3 95 yJ6_bitCount_0f7a4, Cond.static yJ6_bitCount_0f7a4, Cond.initialized RJ6]
def wsL_law_r13 : List Cond := [Cond.code yJ6_bitCount_0f7a4 cJ6_bitCount_0f7a4 1 (some .int), Cond.constant RJ6 265 (1431655765), Cond.constant RJ6 266 (858993459), Cond.constant RJ6 267 (252645135), Cond.methodLink RX3 149 yX1_earsBy, Cond.instanceMethod yX1_earsBy, Cond.selects RX1 yX1_earsBy yX1_earsBy, Cond.code yX1_earsBy cX1_earsBy 7 (some .int), Cond.fieldLink RX1 22 "LockedAtDusk$Dusk" "size" "I", Cond.methodLink RX1 25 yX1_testHolds, Cond.static yX1_testHolds, Cond.code yX1_testHolds cX1_testHolds 4 (some .boolean), Cond.methodLink RX8 128 yX3_hears, Cond.instanceMethod yX3_hears, Cond.selects RX3 yX3_hears yX3_hears, Cond.code yX3_hears cX3_hears 2 (some .boolean), Cond.fieldLink RX3 58 "LockedAtDusk$Park" "keeper" "I", Cond.fieldLink RX3 157 "LockedAtDusk$Dusk" "bell" "I", Cond.methodLink RX3 153 yX3_way, Cond.static yX3_way, Cond.code yX3_way cX3_way 3 (some .int), Cond.methodLink RX3 171 Lib.Math.min.name, Cond.static Lib.Math.min.name, Cond.initialized "java/lang/Math"]
def wsL_law_r14 : List Cond := [Cond.code Lib.Math.min.name Lib.Math.min.code 2 (some .int), Cond.methodLink RX3 166 yJ9_floorMod_7cf53, Cond.static yJ9_floorMod_7cf53, Cond.initialized RJ9, Cond.code yJ9_floorMod_7cf53 cJ9_floorMod_7cf53 3 (some .int), Cond.methodLink RX3 160 yX3_ears, Cond.methodLink RX8 131 yX3_steps, Cond.instanceMethod yX3_steps, Cond.selects RX3 yX3_steps yX3_steps, Cond.code yX3_steps cX3_steps 2 (some .int), Cond.fieldLink RX3 163 "LockedAtDusk$Person" "row" "[I", Cond.methodLink RX8 135 yX3_goal, Cond.instanceMethod yX3_goal, Cond.selects RX3 yX3_goal yX3_goal, Cond.code yX3_goal cX3_goal 7 (some .int), Cond.methodLink RL 27 yX9_of, Cond.instanceMethod yX9_of, Cond.selects RX9 yX9_of yX9_of, Cond.code yX9_of cX9_of 3 (some .int), Cond.methodLink RX9 305 yX9_isPerson, Cond.instanceMethod yX9_isPerson, Cond.selects RX9 yX9_isPerson yX9_isPerson, Cond.code yX9_isPerson cX9_isPerson 2 (some .boolean), Cond.methodLink RX9 312 yX9_has]
def wsL_law_r15 : List Cond := [Cond.instanceMethod yX9_has, Cond.selects RX9 yX9_has yX9_has, Cond.code yX9_has cX9_has 3 (some .boolean), Cond.methodLink RX9 390 yX9_ears, Cond.instanceMethod yX9_ears, Cond.selects RX9 yX9_ears yX9_ears, Cond.code yX9_ears cX9_ears 4 (some .int), Cond.methodLink RX9 365 yX9_begin, Cond.instanceMethod yX9_begin, Cond.selects RX9 yX9_begin yX9_begin, Cond.code yX9_begin cX9_begin 1 (some .int), Cond.methodLink RX9 368 yX9_behind, Cond.instanceMethod yX9_behind, Cond.selects RX9 yX9_behind yX9_behind, Cond.code yX9_behind cX9_behind 1 (some .int), Cond.methodLink RX9 381 yX9_holds, Cond.instanceMethod yX9_holds, Cond.selects RX9 yX9_holds yX9_holds, Cond.code yX9_holds cX9_holds 8 (some .boolean), Cond.methodLink RX9 378 yX9_factOf, Cond.instanceMethod yX9_factOf, Cond.selects RX9 yX9_factOf yX9_factOf, Cond.code yX9_factOf cX9_factOf 3 (some .int), Cond.methodLink RX9 375 yX9_ones]
def wsL_law_r16 : List Cond := [Cond.instanceMethod yX9_ones, Cond.selects RX9 yX9_ones yX9_ones, Cond.code yX9_ones cX9_ones 4 (some .int), Cond.methodLink RX9 393 yX9_hears, Cond.instanceMethod yX9_hears, Cond.selects RX9 yX9_hears yX9_hears, Cond.code yX9_hears cX9_hears 2 (some .boolean), Cond.methodLink RX9 387 yX9_way, Cond.instanceMethod yX9_way, Cond.selects RX9 yX9_way yX9_way, Cond.code yX9_way cX9_way 4 (some .int), Cond.methodLink RX9 384 yX9_up, Cond.instanceMethod yX9_up, Cond.selects RX9 yX9_up yX9_up, Cond.code yX9_up cX9_up 3 (some .int), Cond.methodLink RX9 371 yX9_lastOf, Cond.instanceMethod yX9_lastOf, Cond.selects RX9 yX9_lastOf yX9_lastOf, Cond.code yX9_lastOf cX9_lastOf 5 (some .int), Cond.methodLink RX9 396 yX9_steps, Cond.instanceMethod yX9_steps, Cond.selects RX9 yX9_steps yX9_steps, Cond.code yX9_steps cX9_steps 3 (some .int), Cond.methodLink RX9 399 yX9_goal]
def wsL_law_r17 : List Cond := [Cond.instanceMethod yX9_goal, Cond.selects RX9 yX9_goal yX9_goal, Cond.code yX9_goal cX9_goal 7 (some .int), Cond.methodLink RL 28 yX8_put, Cond.instanceMethod yX8_put, Cond.selects RX8 yX8_put yX8_put, Cond.code yX8_put cX8_put 4 (some .int), Cond.methodLink RX8 138 yX3_setDown, Cond.instanceMethod yX3_setDown, Cond.selects RX3 yX3_setDown yX3_setDown, Cond.code yX3_setDown cX3_setDown 3 none, Cond.fieldLink RX3 83 "LockedAtDusk$Person" "out" "Z", Cond.methodLink RL 31 yX9_put, Cond.instanceMethod yX9_put, Cond.selects RX9 yX9_put yX9_put, Cond.code yX9_put cX9_put 4 (some .int), Cond.methodLink RX9 308 yX9_puts, Cond.instanceMethod yX9_puts, Cond.selects RX9 yX9_puts yX9_puts, Cond.code yX9_puts cX9_puts 3 none, Cond.methodLink RL 32 yX8_call, Cond.instanceMethod yX8_call, Cond.selects RX8 yX8_call yX8_call, Cond.code yX8_call cX8_call 5 (some .int)]
def wsL_law_r18 : List Cond := [Cond.methodLink RL 36 yX9_call, Cond.instanceMethod yX9_call, Cond.selects RX9 yX9_call yX9_call, Cond.code yX9_call cX9_call 4 (some .int), Cond.methodLink RL 37 yX8_shut, Cond.instanceMethod yX8_shut, Cond.selects RX8 yX8_shut yX8_shut, Cond.code yX8_shut cX8_shut 4 (some .int), Cond.methodLink RX8 142 yX3_hasGate, Cond.instanceMethod yX3_hasGate, Cond.selects RX3 yX3_hasGate yX3_hasGate, Cond.code yX3_hasGate cX3_hasGate 2 (some .boolean), Cond.methodLink RX8 145 yX3_isShut, Cond.instanceMethod yX3_isShut, Cond.selects RX3 yX3_isShut yX3_isShut, Cond.code yX3_isShut cX3_isShut 2 (some .boolean), Cond.fieldLink RX3 55 "LockedAtDusk$Park" "shutGates" "I", Cond.methodLink RX8 148 yX3_setShut, Cond.instanceMethod yX3_setShut, Cond.selects RX3 yX3_setShut yX3_setShut, Cond.code yX3_setShut cX3_setShut 3 none, Cond.methodLink RL 40 yX9_shut, Cond.instanceMethod yX9_shut, Cond.selects RX9 yX9_shut yX9_shut]
def wsL_law_r19 : List Cond := [Cond.code yX9_shut cX9_shut 4 (some .int), Cond.methodLink RX9 316 yX9_isGate, Cond.instanceMethod yX9_isGate, Cond.selects RX9 yX9_isGate yX9_isGate, Cond.code yX9_isGate cX9_isGate 2 (some .boolean), Cond.methodLink RL 41 yX8_row, Cond.instanceMethod yX8_row, Cond.selects RX8 yX8_row yX8_row, Cond.code yX8_row cX8_row 6 (some .int), Cond.fieldLink RX8 152 "LockedAtDusk$Person" "row" "[I", Cond.methodLink RL 44 yX9_row, Cond.instanceMethod yX9_row, Cond.selects RX9 yX9_row yX9_row, Cond.code yX9_row cX9_row 5 (some .int), Cond.methodLink RL 45 yX8_round, Cond.instanceMethod yX8_round, Cond.selects RX8 yX8_round yX8_round, Cond.code yX8_round cX8_round 2 (some .int), Cond.fieldLink RX8 159 "LockedAtDusk$Park" "rounds" "I", Cond.fieldLink RX8 162 "LockedAtDusk$Park" "round" "[I", Cond.methodLink RX8 156 yX3_endRound, Cond.instanceMethod yX3_endRound, Cond.selects RX3 yX3_endRound yX3_endRound, Cond.code yX3_endRound cX3_endRound 1 none]
def wsL_law_r20 : List Cond := [Cond.fieldLink RX3 61 "LockedAtDusk$Park" "rounds" "I", Cond.fieldLink RX3 64 "LockedAtDusk$Park" "at" "I", Cond.methodLink RL 48 yX9_round, Cond.instanceMethod yX9_round, Cond.selects RX9 yX9_round yX9_round, Cond.code yX9_round cX9_round 2 (some .int), Cond.methodLink RL 49 yX8_feed, Cond.instanceMethod yX8_feed, Cond.selects RX8 yX8_feed yX8_feed, Cond.code yX8_feed cX8_feed 2 (some .int), Cond.fieldLink RX8 165 "LockedAtDusk$Reader" "length" "I", Cond.methodLink RX8 168 yX5_addSign, Cond.instanceMethod yX5_addSign, Cond.selects RX5 yX5_addSign yX5_addSign, Cond.code yX5_addSign cX5_addSign 2 (some .int), Cond.fieldLink RX5 22 "LockedAtDusk$Reader" "length" "I", Cond.methodLink RL 52 yX9_feed, Cond.instanceMethod yX9_feed, Cond.selects RX9 yX9_feed yX9_feed, Cond.code yX9_feed cX9_feed 2 (some .int), Cond.methodLink RL 53 yX8_dusk, Cond.instanceMethod yX8_dusk, Cond.selects RX8 yX8_dusk yX8_dusk, Cond.code yX8_dusk cX8_dusk 2 (some .int)]
def wsL_law_r21 : List Cond := [Cond.fieldLink RX8 171 "LockedAtDusk" "duskCount" "I", Cond.fieldLink RX8 178 "LockedAtDusk$Park" "dusk" "LLockedAtDusk$Dusk;", Cond.methodLink RX8 174 yX5_readInto, Cond.instanceMethod yX5_readInto, Cond.selects RX5 yX5_readInto yX5_readInto, Cond.code yX5_readInto cX5_readInto 3 (some .int), Cond.fieldLink RX5 29 "LockedAtDusk$Reader" "at" "I", Cond.methodLink RX5 26 yX1_empty, Cond.instanceMethod yX1_empty, Cond.selects RX1 yX1_empty yX1_empty, Cond.code yX1_empty cX1_empty 1 none, Cond.methodLink RX5 32 yX5_readClause, Cond.instanceMethod yX5_readClause, Cond.selects RX5 yX5_readClause yX5_readClause, Cond.code yX5_readClause cX5_readClause 5 (some .boolean), Cond.fieldLink RX5 59 "LockedAtDusk$Dusk" "bell" "I", Cond.methodLink RX5 62 Lib.Math.min.name, Cond.methodLink RX5 68 Lib.Math.max.name, Cond.static Lib.Math.max.name, Cond.code Lib.Math.max.name Lib.Math.max.code 2 (some .int), Cond.fieldLink RX5 71 "LockedAtDusk$Dusk" "pace" "I", Cond.methodLink RX5 40 yX5_isNext, Cond.instanceMethod yX5_isNext, Cond.selects RX5 yX5_isNext yX5_isNext]
def wsL_law_r22 : List Cond := [Cond.code yX5_isNext cX5_isNext 2 (some .boolean), Cond.methodLink RX5 51 yX5_readWord, Cond.instanceMethod yX5_readWord, Cond.selects RX5 yX5_readWord yX5_readWord, Cond.code yX5_readWord cX5_readWord 3 (some .boolean), Cond.methodLink RX5 82 yJ0_length_8abf5, Cond.instanceMethod yJ0_length_8abf5, Cond.selects RJ0 yJ0_length_8abf5 yJ0_length_8abf5, Cond.initialized RJ0, Cond.code yJ0_length_8abf5 cJ0_length_8abf5 1 (some .int), Cond.fieldLink RJ0 9 "java/lang/String" "value" "[B", Cond.methodLink RJ0 335 yJ0_coder_7d493, Cond.instanceMethod yJ0_coder_7d493, Cond.selects RJ0 yJ0_coder_7d493 yJ0_coder_7d493, Cond.code yJ0_coder_7d493 cJ0_coder_7d493 1 (some .byte), Cond.fieldLink RJ0 38 "java/lang/String" "COMPACT_STRINGS" "Z", Cond.fieldLink RJ0 15 "java/lang/String" "coder" "B", Cond.methodLink RX5 86 yJ0_charAt_5068e, Cond.instanceMethod yJ0_charAt_5068e, Cond.selects RJ0 yJ0_charAt_5068e yJ0_charAt_5068e, Cond.code yJ0_charAt_5068e cJ0_charAt_5068e 2 (some .char), Cond.methodLink RJ0 492 yJ0_isLatin1_aae02, Cond.instanceMethod yJ0_isLatin1_aae02, Cond.selects RJ0 yJ0_isLatin1_aae02 yJ0_isLatin1_aae02]
def wsL_law_r23 : List Cond := [Cond.code yJ0_isLatin1_aae02 cJ0_isLatin1_aae02 1 (some .boolean), Cond.methodLink RJ0 495 yJ1_charAt_3b067, Cond.static yJ1_charAt_3b067, Cond.initialized RJ1, Cond.code yJ1_charAt_3b067 cJ1_charAt_3b067 2 (some .char), Cond.methodLink RJ1 9 yJ0_checkIndex_df160, Cond.static yJ0_checkIndex_df160, Cond.code yJ0_checkIndex_df160 cJ0_checkIndex_df160 2 none, Cond.fieldLink RJ0 1053 "jdk/internal/util/Preconditions" "SIOOBE_FORMATTER" "Ljava/util/function/BiFunction;", Cond.methodLink RJ0 1059 yJ3_checkIndex_8e157, Cond.static yJ3_checkIndex_8e157, Cond.initialized RJ3, Cond.code yJ3_checkIndex_8e157 cJ3_checkIndex_8e157 3 (some .int), Cond.methodLink RJ0 498 yJ2_charAt_3b067, Cond.static yJ2_charAt_3b067, Cond.initialized RJ2, Cond.code yJ2_charAt_3b067 cJ2_charAt_3b067 2 (some .char), Cond.methodLink RJ2 67 yJ2_checkIndex_2214a, Cond.static yJ2_checkIndex_2214a, Cond.code yJ2_checkIndex_2214a cJ2_checkIndex_2214a 2 none, Cond.methodLink RJ2 48 yJ2_length_9d52b, Cond.static yJ2_length_9d52b, Cond.code yJ2_length_9d52b cJ2_length_9d52b 1 (some .int), Cond.methodLink RJ2 414 yJ0_checkIndex_df160]
def wsL_law_r24 : List Cond := [Cond.methodLink RJ2 71 yJ2_getChar_3b067, Cond.static yJ2_getChar_3b067, Cond.code yJ2_getChar_3b067 cJ2_getChar_3b067 2 (some .char), Cond.fieldLink RJ2 44 "java/lang/StringUTF16" "$assertionsDisabled" "Z", Cond.fieldLink RJ2 59 "java/lang/StringUTF16" "HI_BYTE_SHIFT" "I", Cond.fieldLink RJ2 63 "java/lang/StringUTF16" "LO_BYTE_SHIFT" "I", Cond.methodLink RX5 36 yX5_skip, Cond.instanceMethod yX5_skip, Cond.selects RX5 yX5_skip yX5_skip, Cond.code yX5_skip cX5_skip 2 (some .boolean), Cond.methodLink RX5 55 yX5_readNumber, Cond.instanceMethod yX5_readNumber, Cond.selects RX5 yX5_readNumber yX5_readNumber, Cond.code yX5_readNumber cX5_readNumber 3 (some .int), Cond.methodLink RX5 74 yX5_readEither, Cond.instanceMethod yX5_readEither, Cond.selects RX5 yX5_readEither yX5_readEither, Cond.code yX5_readEither cX5_readEither 3 (some .boolean), Cond.methodLink RX5 90 yX5_readBoth, Cond.instanceMethod yX5_readBoth, Cond.selects RX5 yX5_readBoth yX5_readBoth, Cond.methodLink RX5 78 yX1_addCode, Cond.instanceMethod yX1_addCode, Cond.selects RX1 yX1_addCode yX1_addCode]
def wsL_law_r25 : List Cond := [Cond.code yX1_addCode cX1_addCode 2 none, Cond.code yX5_readBehindNot cX5_readBehindNot 2 (some .boolean), Cond.methodLink RX5 93 yX5_readPart, Cond.instanceMethod yX5_readPart, Cond.selects RX5 yX5_readPart yX5_readPart, Cond.code yX5_readBoth cX5_readBoth 3 (some .boolean), Cond.code yX5_readPart cX5_readPart 3 (some .boolean), Cond.methodLink RX5 96 yX5_readTest, Cond.instanceMethod yX5_readTest, Cond.selects RX5 yX5_readTest yX5_readTest, Cond.code yX5_readTest cX5_readTest 4 (some .boolean), Cond.methodLink RX5 104 yX5_readOneOf, Cond.instanceMethod yX5_readOneOf, Cond.selects RX5 yX5_readOneOf yX5_readOneOf, Cond.code yX5_readOneOf cX5_readOneOf 3 (some .int), Cond.methodLink RX5 110 yJ0_indexOf_0f7a4, Cond.instanceMethod yJ0_indexOf_0f7a4, Cond.selects RJ0 yJ0_indexOf_0f7a4 yJ0_indexOf_0f7a4, Cond.code yJ0_indexOf_0f7a4 cJ0_indexOf_0f7a4 2 (some .int), Cond.methodLink RJ0 633 yJ0_indexOf_7cf53, Cond.instanceMethod yJ0_indexOf_7cf53, Cond.selects RJ0 yJ0_indexOf_7cf53 yJ0_indexOf_7cf53, Cond.code yJ0_indexOf_7cf53 cJ0_indexOf_7cf53 3 (some .int), Cond.methodLink RJ0 505 yJ0_length_8abf5]
def wsL_law_r26 : List Cond := [Cond.methodLink RJ0 637 yJ1_indexOf_4cfef, Cond.static yJ1_indexOf_4cfef, Cond.code yJ1_indexOf_4cfef cJ1_indexOf_4cfef 4 (some .int), Cond.methodLink RJ1 92 Lib.Math.max.name, Cond.methodLink RJ1 38 Lib.Math.min.name, Cond.methodLink RJ1 88 yJ1_canEncode_9a6ad, Cond.static yJ1_canEncode_9a6ad, Cond.code yJ1_canEncode_9a6ad cJ1_canEncode_9a6ad 1 (some .boolean), Cond.methodLink RJ1 95 yJ1_indexOfChar_4cfef, Cond.static yJ1_indexOfChar_4cfef, Cond.code yJ1_indexOfChar_4cfef cJ1_indexOfChar_4cfef 6 (some .int), Cond.methodLink RJ0 640 yJ2_indexOf_4cfef, Cond.static yJ2_indexOf_4cfef, Cond.code yJ2_indexOf_4cfef cJ2_indexOf_4cfef 4 (some .int), Cond.methodLink RJ2 224 Lib.Math.max.name, Cond.methodLink RJ2 183 Lib.Math.min.name, Cond.constant RJ2 227 (65536), Cond.methodLink RJ2 228 yJ2_indexOfChar_4cfef, Cond.static yJ2_indexOfChar_4cfef, Cond.code yJ2_indexOfChar_4cfef cJ2_indexOfChar_4cfef 4 (some .int), Cond.methodLink RJ2 96 yJ2_checkBoundsBeginEnd_d044e, Cond.static yJ2_checkBoundsBeginEnd_d044e, Cond.code yJ2_checkBoundsBeginEnd_d044e cJ2_checkBoundsBeginEnd_d044e 3 none, Cond.methodLink RJ2 241 yJ0_checkBoundsBeginEnd_23922]
def wsL_law_r27 : List Cond := [Cond.static yJ0_checkBoundsBeginEnd_23922, Cond.code yJ0_checkBoundsBeginEnd_23922 cJ0_checkBoundsBeginEnd_23922 3 none, Cond.methodLink RJ0 1062 yJ3_checkFromToIndex_8c36e, Cond.static yJ3_checkFromToIndex_8c36e, Cond.code yJ3_checkFromToIndex_8c36e cJ3_checkFromToIndex_8c36e 4 (some .int), Cond.methodLink RJ2 244 yJ2_indexOfCharUnsafe_4cfef, Cond.static yJ2_indexOfCharUnsafe_4cfef, Cond.code yJ2_indexOfCharUnsafe_4cfef cJ2_indexOfCharUnsafe_4cfef 5 (some .int), Cond.methodLink RJ2 232 yJ2_indexOfSupplementary_4cfef, Cond.static yJ2_indexOfSupplementary_4cfef, Cond.code yJ2_indexOfSupplementary_4cfef cJ2_indexOfSupplementary_4cfef 7 (some .int), Cond.methodLink RJ2 164 yJ11_isValidCodePoint_9a6ad, Cond.static yJ11_isValidCodePoint_9a6ad, Cond.initialized RJ11, Cond.code yJ11_isValidCodePoint_9a6ad cJ11_isValidCodePoint_9a6ad 2 (some .boolean), Cond.methodLink RJ2 157 yJ11_highSurrogate_5068e, Cond.static yJ11_highSurrogate_5068e, Cond.code yJ11_highSurrogate_5068e cJ11_highSurrogate_5068e 1 (some .char), Cond.constant RJ11 110 (55232), Cond.methodLink RJ2 161 yJ11_lowSurrogate_5068e, Cond.static yJ11_lowSurrogate_5068e, Cond.code yJ11_lowSurrogate_5068e cJ11_lowSurrogate_5068e 1 (some .char), Cond.constant RJ11 76 (56320), Cond.methodLink RX5 99 yX5_readBehindNot]
def wsL_law_r28 : List Cond := [Cond.instanceMethod yX5_readBehindNot, Cond.selects RX5 yX5_readBehindNot yX5_readBehindNot, Cond.methodLink RL 57 yX9_dusk, Cond.instanceMethod yX9_dusk, Cond.selects RX9 yX9_dusk yX9_dusk, Cond.code yX9_dusk cX9_dusk 2 (some .int), Cond.methodLink RX9 362 yX9_goesText, Cond.instanceMethod yX9_goesText, Cond.selects RX9 yX9_goesText yX9_goesText, Cond.code yX9_goesText cX9_goesText 3 (some .boolean), Cond.methodLink RX9 359 yX9_takesClause, Cond.instanceMethod yX9_takesClause, Cond.selects RX9 yX9_takesClause yX9_takesClause, Cond.code yX9_takesClause cX9_takesClause 2 (some .boolean), Cond.methodLink RX9 353 yX9_takesHead, Cond.instanceMethod yX9_takesHead, Cond.selects RX9 yX9_takesHead yX9_takesHead, Cond.code yX9_takesHead cX9_takesHead 2 (some .boolean), Cond.methodLink RX9 319 yX9_next, Cond.instanceMethod yX9_next, Cond.selects RX9 yX9_next yX9_next, Cond.code yX9_next cX9_next 1 (some .int), Cond.methodLink RX9 350 yX9_takesWord, Cond.instanceMethod yX9_takesWord]
def wsL_law_r29 : List Cond := [Cond.selects RX9 yX9_takesWord yX9_takesWord, Cond.code yX9_takesWord cX9_takesWord 4 (some .boolean), Cond.methodLink RX9 323 yX9_takes, Cond.instanceMethod yX9_takes, Cond.selects RX9 yX9_takes yX9_takes, Cond.code yX9_takes cX9_takes 2 (some .boolean), Cond.methodLink RX9 338 yX9_takesNumber, Cond.instanceMethod yX9_takesNumber, Cond.selects RX9 yX9_takesNumber yX9_takesNumber, Cond.code yX9_takesNumber cX9_takesNumber 2 (some .boolean), Cond.methodLink RX9 326 yX9_isDigit, Cond.instanceMethod yX9_isDigit, Cond.selects RX9 yX9_isDigit yX9_isDigit, Cond.code yX9_isDigit cX9_isDigit 1 (some .boolean), Cond.methodLink RX9 356 yX9_takesE, Cond.instanceMethod yX9_takesE, Cond.selects RX9 yX9_takesE yX9_takesE, Cond.code yX9_takesE cX9_takesE 4 (some .boolean), Cond.methodLink RX9 344 yX9_takesTest, Cond.instanceMethod yX9_takesTest, Cond.selects RX9 yX9_takesTest yX9_takesTest, Cond.code yX9_takesTest cX9_takesTest 3 (some .boolean), Cond.methodLink RX9 334 yX9_place, Cond.instanceMethod yX9_place]
def wsL_law_r30 : List Cond := [Cond.selects RX9 yX9_place yX9_place, Cond.code yX9_place cX9_place 2 (some .int), Cond.methodLink RX9 330 yX9_emits, Cond.instanceMethod yX9_emits, Cond.selects RX9 yX9_emits yX9_emits, Cond.code yX9_emits cX9_emits 2 none, Cond.methodLink RX9 341 yX9_whole, Cond.instanceMethod yX9_whole, Cond.selects RX9 yX9_whole yX9_whole, Cond.code yX9_whole cX9_whole 1 none, Cond.methodLink RX9 347 yX9_settle, Cond.instanceMethod yX9_settle, Cond.selects RX9 yX9_settle yX9_settle, Cond.code yX9_settle cX9_settle 2 none, Cond.methodLink RL 58 yX8_told, Cond.instanceMethod yX8_told, Cond.selects RX8 yX8_told yX8_told, Cond.code yX8_told cX8_told 2 (some .int), Cond.fieldLink RX8 182 "LockedAtDusk$Park" "gatePlaces" "[I", Cond.fieldLink RX8 185 "LockedAtDusk$Park" "minute" "I", Cond.fieldLink RX8 188 "LockedAtDusk$Dusk" "bell" "I", Cond.fieldLink RX8 191 "LockedAtDusk$Dusk" "pace" "I", Cond.fieldLink RX8 194 "LockedAtDusk$Park" "keeper" "I", Cond.fieldLink RX8 197 "LockedAtDusk$Park" "at" "I"]
def wsL_law_r31 : List Cond := [Cond.fieldLink RX8 200 "LockedAtDusk$Park" "shutGates" "I", Cond.methodLink RX8 203 yX3_outBits, Cond.instanceMethod yX3_outBits, Cond.selects RX3 yX3_outBits yX3_outBits, Cond.code yX3_outBits cX3_outBits 3 (some .int), Cond.methodLink RL 61 yX9_told, Cond.instanceMethod yX9_told, Cond.selects RX9 yX9_told yX9_told, Cond.code yX9_told cX9_told 2 (some .int), Cond.methodLink RX9 402 yX9_pace, Cond.instanceMethod yX9_pace, Cond.selects RX9 yX9_pace yX9_pace, Cond.code yX9_pace cX9_pace 2 (some .int), Cond.methodLink RL 62 yX8_pass, Cond.instanceMethod yX8_pass, Cond.selects RX8 yX8_pass yX8_pass, Cond.code yX8_pass cX8_pass 2 (some .int), Cond.methodLink RX8 207 yX3_passMinutes, Cond.instanceMethod yX3_passMinutes, Cond.selects RX3 yX3_passMinutes yX3_passMinutes, Cond.code yX3_passMinutes cX3_passMinutes 3 none, Cond.methodLink RX3 104 yX3_passMinute, Cond.instanceMethod yX3_passMinute, Cond.selects RX3 yX3_passMinute yX3_passMinute]
def wsL_law_r32 : List Cond := [Cond.code yX3_passMinute cX3_passMinute 3 none, Cond.fieldLink RX3 107 "LockedAtDusk$Person" "called" "Z", Cond.methodLink RX3 110 yX3_hears, Cond.methodLink RX3 114 yX3_walk, Cond.instanceMethod yX3_walk, Cond.selects RX3 yX3_walk yX3_walk, Cond.code yX3_walk cX3_walk 3 none, Cond.methodLink RX3 120 yX3_goal, Cond.methodLink RX3 124 yX3_hasGate, Cond.methodLink RX3 127 yX3_steps, Cond.methodLink RX3 130 yX3_toward, Cond.static yX3_toward, Cond.code yX3_toward cX3_toward 5 (some .int), Cond.methodLink RX3 134 yX3_isShut, Cond.methodLink RX3 117 yX3_goRound, Cond.instanceMethod yX3_goRound, Cond.selects RX3 yX3_goRound yX3_goRound, Cond.code yX3_goRound cX3_goRound 2 none, Cond.fieldLink RX3 73 "LockedAtDusk$Park" "waiting" "I", Cond.fieldLink RX3 70 "LockedAtDusk$Park" "otherPace" "I", Cond.fieldLink RX3 140 "LockedAtDusk$Dusk" "pace" "I", Cond.methodLink RX3 87 yX3_setShut, Cond.methodLink RL 65 yX9_pass, Cond.instanceMethod yX9_pass]
def wsL_law_r33 : List Cond := [Cond.selects RX9 yX9_pass yX9_pass, Cond.code yX9_pass cX9_pass 2 (some .int), Cond.methodLink RX9 418 yX9_goMinutes, Cond.instanceMethod yX9_goMinutes, Cond.selects RX9 yX9_goMinutes yX9_goMinutes, Cond.code yX9_goMinutes cX9_goMinutes 3 none, Cond.methodLink RX9 415 yX9_goMinute, Cond.instanceMethod yX9_goMinute, Cond.selects RX9 yX9_goMinute yX9_goMinute, Cond.code yX9_goMinute cX9_goMinute 2 none, Cond.methodLink RX9 409 yX9_goPerson, Cond.instanceMethod yX9_goPerson, Cond.selects RX9 yX9_goPerson yX9_goPerson, Cond.code yX9_goPerson cX9_goPerson 3 none, Cond.methodLink RX9 405 yX9_toward, Cond.instanceMethod yX9_toward, Cond.selects RX9 yX9_toward yX9_toward, Cond.code yX9_toward cX9_toward 6 (some .int), Cond.methodLink RX9 412 yX9_goKeeper, Cond.instanceMethod yX9_goKeeper, Cond.selects RX9 yX9_goKeeper yX9_goKeeper, Cond.code yX9_goKeeper cX9_goKeeper 2 none, Cond.methodLink RL 66 yX8_on, Cond.instanceMethod yX8_on]
def wsL_law_r34 : List Cond := [Cond.selects RX8 yX8_on yX8_on, Cond.code yX8_on cX8_on 5 (some .int), Cond.methodLink RX8 210 yX3_copyFrom, Cond.instanceMethod yX3_copyFrom, Cond.selects RX3 yX3_copyFrom yX3_copyFrom, Cond.code yX3_copyFrom cX3_copyFrom 3 none, Cond.methodLink RX3 39 arraycopyName, Cond.native arraycopyName, Cond.static arraycopyName, Cond.initialized "java/lang/System", Cond.methodLink RX3 48 yX4_copyFrom, Cond.instanceMethod yX4_copyFrom, Cond.selects RX4 yX4_copyFrom yX4_copyFrom, Cond.code yX4_copyFrom cX4_copyFrom 2 none, Cond.methodLink RX4 35 arraycopyName, Cond.methodLink RL 69 yX9_on, Cond.instanceMethod yX9_on, Cond.selects RX9 yX9_on yX9_on, Cond.code yX9_on cX9_on 4 (some .int), Cond.methodLink RX9 421 yX9_isMinutes, Cond.instanceMethod yX9_isMinutes, Cond.selects RX9 yX9_isMinutes yX9_isMinutes, Cond.code yX9_isMinutes cX9_isMinutes 2 (some .boolean), Cond.methodLink RX9 424 yX9_save]
def wsL_law_r35 : List Cond := [Cond.instanceMethod yX9_save, Cond.selects RX9 yX9_save yX9_save, Cond.code yX9_save cX9_save 2 none, Cond.methodLink RX9 427 yX9_putBack, Cond.instanceMethod yX9_putBack, Cond.selects RX9 yX9_putBack yX9_putBack, Cond.code yX9_putBack cX9_putBack 2 none, Cond.methodLink RL 70 yX8_clear, Cond.instanceMethod yX8_clear, Cond.selects RX8 yX8_clear yX8_clear, Cond.code yX8_clear cX8_clear 2 (some .int), Cond.methodLink RX8 214 yX3_inside, Cond.instanceMethod yX3_inside, Cond.selects RX3 yX3_inside yX3_inside, Cond.code yX3_inside cX3_inside 1 (some .int), Cond.methodLink RX3 91 yX3_outBits, Cond.methodLink RX8 217 yX3_passMinute, Cond.methodLink RL 73 yX9_clear, Cond.instanceMethod yX9_clear, Cond.selects RX9 yX9_clear yX9_clear, Cond.code yX9_clear cX9_clear 2 (some .int), Cond.methodLink RX9 430 yX9_all, Cond.instanceMethod yX9_all, Cond.selects RX9 yX9_all yX9_all]
def wsL_law_r36 : List Cond := [Cond.code yX9_all cX9_all 1 (some .int), Cond.methodLink RL 74 yX8_stay, Cond.instanceMethod yX8_stay, Cond.selects RX8 yX8_stay yX8_stay, Cond.code yX8_stay cX8_stay 2 (some .int), Cond.methodLink RL 77 yX9_stay, Cond.instanceMethod yX9_stay, Cond.selects RX9 yX9_stay yX9_stay, Cond.code yX9_stay cX9_stay 1 (some .int), Cond.methodLink RX9 433 yX9_on, Cond.methodLink RL 78 yX8_best, Cond.instanceMethod yX8_best, Cond.selects RX8 yX8_best yX8_best, Cond.code yX8_best cX8_best 4 (some .int), Cond.methodLink RX8 220 yX3_leftBehind, Cond.instanceMethod yX3_leftBehind, Cond.selects RX3 yX3_leftBehind yX3_leftBehind, Cond.code yX3_leftBehind cX3_leftBehind 2 (some .int), Cond.methodLink RX3 101 yX3_inside, Cond.methodLink RX8 223 yX8_bestChange, Cond.instanceMethod yX8_bestChange, Cond.selects RX8 yX8_bestChange yX8_bestChange, Cond.code yX8_bestChange cX8_bestChange 7 (some .int), Cond.methodLink RX8 227 yX8_canChange]
def wsL_law_r37 : List Cond := [Cond.instanceMethod yX8_canChange, Cond.selects RX8 yX8_canChange yX8_canChange, Cond.code yX8_canChange cX8_canChange 3 (some .boolean), Cond.methodLink RX8 231 yX8_makeChange, Cond.instanceMethod yX8_makeChange, Cond.selects RX8 yX8_makeChange yX8_makeChange, Cond.code yX8_makeChange cX8_makeChange 3 none, Cond.fieldLink RX8 240 "LockedAtDusk$Park" "otherPace" "I", Cond.fieldLink RX8 243 "LockedAtDusk$Park" "waiting" "I", Cond.methodLink RX8 234 yX3_beginRoundWith, Cond.instanceMethod yX3_beginRoundWith, Cond.selects RX3 yX3_beginRoundWith yX3_beginRoundWith, Cond.code yX3_beginRoundWith cX3_beginRoundWith 4 none, Cond.methodLink RX8 237 yX3_swapInRound, Cond.instanceMethod yX3_swapInRound, Cond.selects RX3 yX3_swapInRound yX3_swapInRound, Cond.code yX3_swapInRound cX3_swapInRound 4 none, Cond.methodLink RX8 246 yX3_keepOpen, Cond.instanceMethod yX3_keepOpen, Cond.selects RX3 yX3_keepOpen yX3_keepOpen, Cond.code yX3_keepOpen cX3_keepOpen 2 none, Cond.methodLink RL 81 yX9_best, Cond.instanceMethod yX9_best, Cond.selects RX9 yX9_best yX9_best]
def wsL_law_r38 : List Cond := [Cond.code yX9_best cX9_best 2 (some .int), Cond.methodLink RX9 442 yX9_firstOf, Cond.instanceMethod yX9_firstOf, Cond.selects RX9 yX9_firstOf yX9_firstOf, Cond.code yX9_firstOf cX9_firstOf 5 (some .int), Cond.methodLink RX9 436 yX9_leftThen, Cond.instanceMethod yX9_leftThen, Cond.selects RX9 yX9_leftThen yX9_leftThen, Cond.code yX9_leftThen cX9_leftThen 2 (some .int), Cond.methodLink RX9 445 yX9_swapOf, Cond.instanceMethod yX9_swapOf, Cond.selects RX9 yX9_swapOf yX9_swapOf, Cond.code yX9_swapOf cX9_swapOf 6 (some .int), Cond.methodLink RX9 439 yX9_left, Cond.instanceMethod yX9_left, Cond.selects RX9 yX9_left yX9_left, Cond.code yX9_left cX9_left 1 (some .int), Cond.methodLink RX9 448 yX9_quickOf, Cond.instanceMethod yX9_quickOf, Cond.selects RX9 yX9_quickOf yX9_quickOf, Cond.code yX9_quickOf cX9_quickOf 5 (some .int), Cond.methodLink RX9 451 yX9_waitOf, Cond.instanceMethod yX9_waitOf, Cond.selects RX9 yX9_waitOf yX9_waitOf]
def wsL_law_r39 : List Cond := [Cond.code yX9_waitOf cX9_waitOf 5 (some .int), Cond.methodLink RX9 454 yX9_openOf, Cond.instanceMethod yX9_openOf, Cond.selects RX9 yX9_openOf yX9_openOf, Cond.code yX9_openOf cX9_openOf 5 (some .int), Cond.methodLink RL 82 yX8_hides, Cond.instanceMethod yX8_hides, Cond.selects RX8 yX8_hides yX8_hides, Cond.code yX8_hides cX8_hides 4 (some .int), Cond.methodLink RX8 249 yX3_sendOthersOut, Cond.instanceMethod yX3_sendOthersOut, Cond.selects RX3 yX3_sendOthersOut yX3_sendOthersOut, Cond.code yX3_sendOthersOut cX3_sendOthersOut 3 none, Cond.methodLink RL 85 yX9_hides, Cond.instanceMethod yX9_hides, Cond.selects RX9 yX9_hides yX9_hides, Cond.code yX9_hides cX9_hides 4 (some .int), Cond.methodLink RL 86 yX8_see, Cond.instanceMethod yX8_see, Cond.selects RX8 yX8_see yX8_see, Cond.code yX8_see cX8_see 4 (some .int), Cond.fieldLink RX8 252 "LockedAtDusk$Rows" "size" "I", Cond.methodLink RX8 255 yX6_isFull, Cond.instanceMethod yX6_isFull]
def wsL_law_r40 : List Cond := [Cond.selects RX6 yX6_isFull yX6_isFull, Cond.code yX6_isFull cX6_isFull 1 (some .boolean), Cond.fieldLink RX6 19 "LockedAtDusk$Rows" "size" "I", Cond.methodLink RX8 259 yX6_addRow, Cond.instanceMethod yX6_addRow, Cond.selects RX6 yX6_addRow yX6_addRow, Cond.code yX6_addRow cX6_addRow 4 (some .int), Cond.methodLink RL 90 yX9_see, Cond.instanceMethod yX9_see, Cond.selects RX9 yX9_see yX9_see, Cond.code yX9_see cX9_see 4 (some .int), Cond.methodLink RL 91 yX8_where, Cond.instanceMethod yX8_where, Cond.selects RX8 yX8_where yX8_where, Cond.code yX8_where cX8_where 5 (some .int), Cond.methodLink RX8 262 yX8_isPart, Cond.static yX8_isPart, Cond.code yX8_isPart cX8_isPart 1 (some .boolean), Cond.methodLink RX8 265 yX8_trialIsAsSeen, Cond.instanceMethod yX8_trialIsAsSeen, Cond.selects RX8 yX8_trialIsAsSeen yX8_trialIsAsSeen, Cond.code yX8_trialIsAsSeen cX8_trialIsAsSeen 4 (some .boolean), Cond.fieldLink RX8 276 "LockedAtDusk$Rows" "third" "[I", Cond.methodLink RX8 279 Lib.Math.max.name]
def wsL_law_r41 : List Cond := [Cond.fieldLink RX8 284 "LockedAtDusk$Rows" "first" "[I", Cond.fieldLink RX8 287 "LockedAtDusk$Rows" "second" "[I", Cond.methodLink RX8 268 yJ6_bitCount_0f7a4, Cond.methodLink RX8 273 yX8_leastOf, Cond.static yX8_leastOf, Cond.code yX8_leastOf cX8_leastOf 1 (some .int), Cond.methodLink RX8 290 yJ6_numberOfTrailingZeros_0f7a4, Cond.static yJ6_numberOfTrailingZeros_0f7a4, Cond.code yJ6_numberOfTrailingZeros_0f7a4 cJ6_numberOfTrailingZeros_0f7a4 2 (some .int), Cond.constant RJ6 264 (65536), Cond.methodLink RL 94 yX9_where, Cond.instanceMethod yX9_where, Cond.selects RX9 yX9_where yX9_where, Cond.code yX9_where cX9_where 6 (some .int), Cond.methodLink RX9 457 yX9_isSeen, Cond.instanceMethod yX9_isSeen, Cond.selects RX9 yX9_isSeen yX9_isSeen, Cond.code yX9_isSeen cX9_isSeen 5 (some .boolean), Cond.methodLink RL 95 yX8_can, Cond.instanceMethod yX8_can, Cond.selects RX8 yX8_can yX8_can, Cond.code yX8_can cX8_can 5 (some .int), Cond.methodLink RL 98 yX9_can, Cond.instanceMethod yX9_can]
def wsL_law_r42 : List Cond := [Cond.selects RX9 yX9_can yX9_can, Cond.code yX9_can cX9_can 7 (some .int), Cond.methodLink RL 99 yX8_odds, Cond.instanceMethod yX8_odds, Cond.selects RX8 yX8_odds yX8_odds, Cond.code yX8_odds cX8_odds 5 (some .long), Cond.constantLong RX8 293 (-9223372036854775808), Cond.methodLink RX8 295 yX8_fractionPart, Cond.static yX8_fractionPart, Cond.code yX8_fractionPart cX8_fractionPart 4 (some .long), Cond.methodLink RX8 299 yX8_commonDivisor, Cond.static yX8_commonDivisor, Cond.code yX8_commonDivisor cX8_commonDivisor 6 (some .int), Cond.methodLink RL 103 yX9_odds, Cond.instanceMethod yX9_odds, Cond.selects RX9 yX9_odds yX9_odds, Cond.code yX9_odds cX9_odds 5 (some .long), Cond.constantLong RX9 463 (-9223372036854775808), Cond.methodLink RX9 465 yX9_lowest, Cond.instanceMethod yX9_lowest, Cond.selects RX9 yX9_lowest yX9_lowest, Cond.code yX9_lowest cX9_lowest 5 (some .long), Cond.methodLink RX9 460 yX9_divisor, Cond.instanceMethod yX9_divisor]
def wsL_law_r43 : List Cond := [Cond.selects RX9 yX9_divisor yX9_divisor, Cond.code yX9_divisor cX9_divisor 6 (some .int), Cond.methodLink RL 104 yX8_mean, Cond.instanceMethod yX8_mean, Cond.selects RX8 yX8_mean yX8_mean, Cond.code yX8_mean cX8_mean 5 (some .long), Cond.methodLink RL 107 yX9_mean, Cond.instanceMethod yX9_mean, Cond.selects RX9 yX9_mean yX9_mean, Cond.code yX9_mean cX9_mean 5 (some .long), Cond.methodLink RL 108 yX8_evening, Cond.instanceMethod yX8_evening, Cond.selects RX8 yX8_evening yX8_evening, Cond.code yX8_evening cX8_evening 5 (some .int), Cond.methodLink RL 111 yX9_evening, Cond.instanceMethod yX9_evening, Cond.selects RX9 yX9_evening yX9_evening, Cond.code yX9_evening cX9_evening 3 (some .int), Cond.methodLink RL 112 yX8_gone, Cond.instanceMethod yX8_gone, Cond.selects RX8 yX8_gone yX8_gone, Cond.code yX8_gone cX8_gone 4 (some .int), Cond.methodLink RL 115 yX9_gone, Cond.instanceMethod yX9_gone]
def wsL_law_r44 : List Cond := [Cond.selects RX9 yX9_gone yX9_gone, Cond.code yX9_gone cX9_gone 3 (some .int), Cond.methodLink RL 116 yX8_book, Cond.instanceMethod yX8_book, Cond.selects RX8 yX8_book yX8_book, Cond.code yX8_book cX8_book 3 (some .int), Cond.methodLink RL 119 yX9_book, Cond.instanceMethod yX9_book, Cond.selects RX9 yX9_book yX9_book, Cond.code yX9_book cX9_book 3 (some .int), Cond.methodLink RL 120 yX8_looked, Cond.instanceMethod yX8_looked, Cond.selects RX8 yX8_looked yX8_looked, Cond.code yX8_looked cX8_looked 2 (some .int), Cond.methodLink RL 123 yX9_looked, Cond.instanceMethod yX9_looked, Cond.selects RX9 yX9_looked yX9_looked, Cond.code yX9_looked cX9_looked 2 (some .int), Cond.methodLink RL 124 yX8_judge, Cond.instanceMethod yX8_judge, Cond.selects RX8 yX8_judge yX8_judge, Cond.code yX8_judge cX8_judge 5 (some .int), Cond.fieldLink RX8 305 "LockedAtDusk$Tape" "sort" "I", Cond.fieldLink RX8 308 "LockedAtDusk$Tape" "size" "I"]
def wsL_law_r45 : List Cond := [Cond.fieldLink RX8 309 "LockedAtDusk$Tape" "items" "[J", Cond.methodLink RX8 302 yX8_isTape, Cond.static yX8_isTape, Cond.code yX8_isTape cX8_isTape 1 (some .boolean), Cond.methodLink RL 127 yX9_judge, Cond.instanceMethod yX9_judge, Cond.selects RX9 yX9_judge yX9_judge, Cond.code yX9_judge cX9_judge 4 (some .int), Cond.methodLink RX9 469 yX9_isTape, Cond.instanceMethod yX9_isTape, Cond.selects RX9 yX9_isTape yX9_isTape, Cond.code yX9_isTape cX9_isTape 2 (some .boolean), Cond.methodLink RL 128 yX8_image, Cond.instanceMethod yX8_image, Cond.selects RX8 yX8_image yX8_image, Cond.code yX8_image cX8_image 1 (some .int), Cond.fieldLink RX8 313 "LockedAtDusk$Image" "park" "LLockedAtDusk$Park;", Cond.fieldLink RX8 316 "LockedAtDusk$Image" "seen" "LLockedAtDusk$Rows;", Cond.fieldLink RX8 320 "LockedAtDusk$Image" "evening" "LLockedAtDusk$Rows;", Cond.fieldLink RX8 321 "LockedAtDusk$Image" "book" "LLockedAtDusk$Rows;", Cond.fieldLink RX8 322 "LockedAtDusk$Image" "isTaken" "Z", Cond.methodLink RX8 317 yX6_copyFrom, Cond.instanceMethod yX6_copyFrom, Cond.selects RX6 yX6_copyFrom yX6_copyFrom]
def wsL_law_r46 : List Cond := [Cond.code yX6_copyFrom cX6_copyFrom 2 none, Cond.methodLink RX6 23 Lib.Math.min.name, Cond.methodLink RX6 29 arraycopyName, Cond.methodLink RL 131 yX9_image, Cond.instanceMethod yX9_image, Cond.selects RX9 yX9_image yX9_image, Cond.code yX9_image cX9_image 2 (some .int), Cond.methodLink RL 132 yX8_undo, Cond.instanceMethod yX8_undo, Cond.selects RX8 yX8_undo yX8_undo, Cond.code yX8_undo cX8_undo 1 (some .int), Cond.methodLink RL 135 yX9_undo, Cond.instanceMethod yX9_undo, Cond.selects RX9 yX9_undo yX9_undo, Cond.code yX9_undo cX9_undo 2 (some .int), Cond.methodLink RL 136 yX8_act, Cond.instanceMethod yX8_act, Cond.selects RX8 yX8_act yX8_act, Cond.code yX8_act cX8_act 4 (some .int), Cond.fieldLink RX8 325 "LockedAtDusk$Acts" "ran" "I", Cond.methodLink RX8 328 yX0_begin, Cond.instanceMethod yX0_begin, Cond.selects RX0 yX0_begin yX0_begin, Cond.code yX0_begin cX0_begin 5 (some .int)]
def wsL_law_r47 : List Cond := [Cond.fieldLink RX0 15 "LockedAtDusk$Acts" "number" "I", Cond.fieldLink RX0 19 "LockedAtDusk$Person" "kind" "I", Cond.fieldLink RX0 24 "LockedAtDusk$Acts" "kind" "I", Cond.fieldLink RX0 25 "LockedAtDusk$Person" "v" "I", Cond.fieldLink RX0 28 "LockedAtDusk$Acts" "v" "I", Cond.methodLink RX0 29 yX0_run, Cond.instanceMethod yX0_run, Cond.selects RX0 yX0_run yX0_run, Cond.code yX0_run cX0_run 6 (some .int), Cond.methodLink RX0 33 yX0_bodyOf, Cond.static yX0_bodyOf, Cond.code yX0_bodyOf cX0_bodyOf 4 (some .int), Cond.methodLink RX0 37 yX0_keep, Cond.instanceMethod yX0_keep, Cond.selects RX0 yX0_keep yX0_keep, Cond.code yX0_keep cX0_keep 2 none, Cond.fieldLink RX0 51 "LockedAtDusk$Acts" "ran" "I", Cond.methodLink RX0 41 yX0_answerOf, Cond.instanceMethod yX0_answerOf, Cond.selects RX0 yX0_answerOf yX0_answerOf, Cond.code yX0_answerOf cX0_answerOf 4 (some .int), Cond.methodLink RL 139 yX9_act, Cond.instanceMethod yX9_act, Cond.selects RX9 yX9_act yX9_act]
def wsL_law_r48 : List Cond := [Cond.code yX9_act cX9_act 4 (some .int), Cond.methodLink RX9 478 yX9_waitsAct, Cond.instanceMethod yX9_waitsAct, Cond.selects RX9 yX9_waitsAct yX9_waitsAct, Cond.code yX9_waitsAct cX9_waitsAct 3 (some .int), Cond.methodLink RX9 472 yX9_body, Cond.instanceMethod yX9_body, Cond.selects RX9 yX9_body yX9_body, Cond.code yX9_body cX9_body 2 none, Cond.methodLink RX9 475 yX9_personWaits, Cond.instanceMethod yX9_personWaits, Cond.selects RX9 yX9_personWaits yX9_personWaits, Cond.code yX9_personWaits cX9_personWaits 3 (some .int), Cond.methodLink RX9 487 yX9_walksAct, Cond.instanceMethod yX9_walksAct, Cond.selects RX9 yX9_walksAct yX9_walksAct, Cond.code yX9_walksAct cX9_walksAct 4 (some .int), Cond.methodLink RX9 484 yX9_oldWalks, Cond.instanceMethod yX9_oldWalks, Cond.selects RX9 yX9_oldWalks yX9_oldWalks, Cond.code yX9_oldWalks cX9_oldWalks 3 (some .int), Cond.methodLink RX9 481 yX9_personWalks, Cond.instanceMethod yX9_personWalks, Cond.selects RX9 yX9_personWalks yX9_personWalks]
def wsL_law_r49 : List Cond := [Cond.code yX9_personWalks cX9_personWalks 3 (some .int), Cond.methodLink RX9 493 yX9_tellsAct, Cond.instanceMethod yX9_tellsAct, Cond.selects RX9 yX9_tellsAct yX9_tellsAct, Cond.code yX9_tellsAct cX9_tellsAct 4 (some .int), Cond.methodLink RX9 490 yX9_personTells, Cond.instanceMethod yX9_personTells, Cond.selects RX9 yX9_personTells yX9_personTells, Cond.code yX9_personTells cX9_personTells 3 (some .int), Cond.methodLink RL 140 yX8_trace, Cond.instanceMethod yX8_trace, Cond.selects RX8 yX8_trace yX8_trace, Cond.code yX8_trace cX8_trace 2 (some .int), Cond.methodLink RX8 332 Lib.Math.min.name, Cond.fieldLink RX8 335 "LockedAtDusk$Acts" "trace" "[I", Cond.methodLink RL 143 yX9_trace, Cond.instanceMethod yX9_trace, Cond.selects RX9 yX9_trace yX9_trace, Cond.code yX9_trace cX9_trace 2 (some .int), Cond.methodLink RL 144 yX8_taken, Cond.instanceMethod yX8_taken, Cond.selects RX8 yX8_taken yX8_taken, Cond.code yX8_taken cX8_taken 4 (some .int), Cond.methodLink RX8 338 yX8_isUnder]
def wsL_law_r50 : List Cond := [Cond.static yX8_isUnder, Cond.code yX8_isUnder cX8_isUnder 4 (some .boolean), Cond.fieldLink RX8 341 "LockedAtDusk" "KIND_ABOVE" "[I", Cond.methodLink RL 147 yX9_taken, Cond.instanceMethod yX9_taken, Cond.selects RX9 yX9_taken yX9_taken, Cond.code yX9_taken cX9_taken 4 (some .int), Cond.methodLink RL 148 yX8_count, Cond.instanceMethod yX8_count, Cond.selects RX8 yX8_count yX8_count, Cond.code yX8_count cX8_count 2 (some .int), Cond.methodLink RL 151 yX9_count, Cond.instanceMethod yX9_count, Cond.selects RX9 yX9_count yX9_count, Cond.code yX9_count cX9_count 2 (some .int), Cond.methodLink RL 152 yX8_tape, Cond.instanceMethod yX8_tape, Cond.selects RX8 yX8_tape yX8_tape, Cond.code yX8_tape cX8_tape 4 (some .int), Cond.methodLink RX8 344 yX7_become, Cond.instanceMethod yX7_become, Cond.selects RX7 yX7_become yX7_become, Cond.code yX7_become cX7_become 4 none, Cond.fieldLink RX7 19 "LockedAtDusk$Tape" "size" "I"]
def wsL_law_r51 : List Cond := [Cond.methodLink RL 155 yX9_tape, Cond.instanceMethod yX9_tape, Cond.selects RX9 yX9_tape yX9_tape, Cond.code yX9_tape cX9_tape 5 (some .int), Cond.methodLink RL 158 yX8_item, Cond.instanceMethod yX8_item, Cond.selects RX8 yX8_item yX8_item, Cond.code yX8_item cX8_item 6 (some .int), Cond.methodLink RX8 347 yX7_hasItem, Cond.instanceMethod yX7_hasItem, Cond.selects RX7 yX7_hasItem yX7_hasItem, Cond.code yX7_hasItem cX7_hasItem 2 (some .boolean), Cond.methodLink RX8 350 yX7_narrowed, Cond.instanceMethod yX7_narrowed, Cond.selects RX7 yX7_narrowed yX7_narrowed, Cond.code yX7_narrowed cX7_narrowed 3 (some .long), Cond.methodLink RL 162 yX9_item, Cond.instanceMethod yX9_item, Cond.selects RX9 yX9_item yX9_item, Cond.code yX9_item cX9_item 5 (some .int), Cond.methodLink RX9 496 yX9_narrow, Cond.instanceMethod yX9_narrow, Cond.selects RX9 yX9_narrow yX9_narrow, Cond.code yX9_narrow cX9_narrow 4 (some .long)]
def wsL_law_r52 : List Cond := [Cond.methodLink RL 163 yX8_read, Cond.instanceMethod yX8_read, Cond.selects RX8 yX8_read yX8_read, Cond.code yX8_read cX8_read 3 (some .long), Cond.methodLink RL 166 yX9_read, Cond.instanceMethod yX9_read, Cond.selects RX9 yX9_read yX9_read, Cond.code yX9_read cX9_read 3 (some .long), Cond.methodLink RL 167 yX8_shift, Cond.instanceMethod yX8_shift, Cond.selects RX8 yX8_shift yX8_shift, Cond.code yX8_shift cX8_shift 8 (some .int), Cond.methodLink RX8 357 arraycopyName, Cond.methodLink RX8 354 yX7_hasItems, Cond.instanceMethod yX7_hasItems, Cond.selects RX7 yX7_hasItems yX7_hasItems, Cond.code yX7_hasItems cX7_hasItems 3 (some .boolean), Cond.methodLink RL 171 yX9_shift, Cond.instanceMethod yX9_shift, Cond.selects RX9 yX9_shift yX9_shift, Cond.code yX9_shift cX9_shift 7 (some .int)]
def wsL_law : List Cond := (wsL_law_r1 ++ (wsL_law_r2 ++ (wsL_law_r3 ++ (wsL_law_r4 ++ (wsL_law_r5 ++ (wsL_law_r6 ++ (wsL_law_r7 ++ (wsL_law_r8 ++ (wsL_law_r9 ++ (wsL_law_r10 ++ (wsL_law_r11 ++ (wsL_law_r12 ++ (wsL_law_r13 ++ (wsL_law_r14 ++ (wsL_law_r15 ++ (wsL_law_r16 ++ (wsL_law_r17 ++ (wsL_law_r18 ++ (wsL_law_r19 ++ (wsL_law_r20 ++ (wsL_law_r21 ++ (wsL_law_r22 ++ (wsL_law_r23 ++ (wsL_law_r24 ++ (wsL_law_r25 ++ (wsL_law_r26 ++ (wsL_law_r27 ++ (wsL_law_r28 ++ (wsL_law_r29 ++ (wsL_law_r30 ++ (wsL_law_r31 ++ (wsL_law_r32 ++ (wsL_law_r33 ++ (wsL_law_r34 ++ (wsL_law_r35 ++ (wsL_law_r36 ++ (wsL_law_r37 ++ (wsL_law_r38 ++ (wsL_law_r39 ++ (wsL_law_r40 ++ (wsL_law_r41 ++ (wsL_law_r42 ++ (wsL_law_r43 ++ (wsL_law_r44 ++ (wsL_law_r45 ++ (wsL_law_r46 ++ (wsL_law_r47 ++ (wsL_law_r48 ++ (wsL_law_r49 ++ (wsL_law_r50 ++ (wsL_law_r51 ++ wsL_law_r52))))))))))))))))))))))))))))))))))))))))))))))))))) ++ wsX80 ++ wsX90 ++ wsX30 ++ wsX60 ++ wsX20 ++ wsX50 ++ wsX00 ++ wsX10 ++ wsX70 ++ wsX40 ++ ([] : List Cond)
set_option maxRecDepth 20000 in
theorem wsL_law_in : ∀ w ∈ wsL_law, w ∈ lw_tbl := fun w h => (goodIn_p wsL_law [106, 109, 114, 122, 147, 250, 273, 303, 328, 354, 979, 407, 410, 414, 1265, 1269, 1273, 1277, 418, 421, 425, 429, 1281, 433, 437, 440, 444, 447, 454, 457, 462, 465, 471, 468, 476, 480, 1385, 1289, 1301, 1389, 1393, 1397, 1401, 1405, 1409, 1413, 1417, 1421, 1425, 1429, 1433, 484, 488, 1285, 1293, 492, 1297, 496, 500, 504, 508, 1305, 1309, 512, 1313, 516, 520, 1317, 524, 528, 1321, 532, 536, 540, 544, 615, 548, 556, 560, 564, 570, 574, 577, 580, 585, 588, 591, 594, 598, 608, 612, 620, 697, 701, 624, 628, 632, 637, 641, 645, 649, 652, 657, 660, 666, 669, 672, 675, 678, 681, 684, 687, 691, 1325, 1329, 1333, 1337, 1341, 1345, 1349, 1353, 1357, 1361, 1365, 1369, 1373, 1377, 1381, 705, 709, 1437, 1441, 713, 717, 721, 726, 732, 737, 1445, 1449, 1453, 1457, 1461, 1465, 742, 746, 753, 1469, 1473, 1477, 1481, 758, 762, 1485, 1489, 768, 1493, 772, 776, 781, 785, 789, 793, 797, 801, 1498, 1502, 1506, 1510, 1514, 1518, 1522, 1526, 805, 809, 1530, 813, 817, 821, 1534, 825, 828, 832, 837, 840, 1538, 1542, 845, 1546, 849, 853, 856, 1550, 1555, 1559, 860, 1563, 864, 1567, 868, 1571, 872, 1575, 876, 1579, 880, 883, 1583, 1587, 887, 891, 1591, 897, 1595, 901, 905, 909, 912, 920, 924, 1599, 1603, 1607, 1611, 1615, 1619, 1623, 1627, 1631, 928, 1635, 933, 936, 1639, 941, 1643, 945, 949, 1647, 953, 957, 961, 1651, 1655, 965, 1659, 969, 973, 1663] (by decide +kernel) (by decide +kernel) w h).1
end
