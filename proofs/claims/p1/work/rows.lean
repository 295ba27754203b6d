section
-- ===== PART A: goes FIRST, ahead of the names: the tables' words, and 'selects' of the private methods out of them =====
/-- a private method of a class that the tables say can be made, by its rows of tables_1 -/
def lw_okq (q : MethodName × Nat) : Prop := (q.1.cls ≠ "java/lang/invoke/MethodHandle" ∧ q.1.cls ≠ "java/lang/invoke/VarHandle") ∧ Cond.instantiable q.1.cls q.2 ∈ tables_1 ∧ Cond.privateMethod q.1 ∈ tables_1 ∧ Cond.instanceMethod q.1 ∈ tables_1
theorem lw_p0 : lw_okq (⟨"FearLocks$DreadsReader", "readFears", "()I"⟩, 3) := ⟨⟨by decide +kernel, by decide +kernel⟩, List.mem_of_getElem? (i := 352) (by decide +kernel), List.mem_of_getElem? (i := 350) (by decide +kernel), List.mem_of_getElem? (i := 351) (by decide +kernel)⟩
theorem lw_p1 : lw_okq (⟨"FearLocks$DreadsReader", "change", "(III)V"⟩, 3) := ⟨⟨by decide +kernel, by decide +kernel⟩, List.mem_of_getElem? (i := 352) (by decide +kernel), List.mem_of_getElem? (i := 367) (by decide +kernel), List.mem_of_getElem? (i := 368) (by decide +kernel)⟩
theorem lw_p2 : lw_okq (⟨"FearLocks$LawReader", "readSum", "(I)Z"⟩, 2) := ⟨⟨by decide +kernel, by decide +kernel⟩, List.mem_of_getElem? (i := 280) (by decide +kernel), List.mem_of_getElem? (i := 396) (by decide +kernel), List.mem_of_getElem? (i := 397) (by decide +kernel)⟩
theorem lw_p3 : lw_okq (⟨"FearLocks$LawReader", "readProduct", "(I)Z"⟩, 2) := ⟨⟨by decide +kernel, by decide +kernel⟩, List.mem_of_getElem? (i := 280) (by decide +kernel), List.mem_of_getElem? (i := 400) (by decide +kernel), List.mem_of_getElem? (i := 401) (by decide +kernel)⟩
theorem lw_p4 : lw_okq (⟨"FearLocks$LawReader", "readFactor", "(I)Z"⟩, 2) := ⟨⟨by decide +kernel, by decide +kernel⟩, List.mem_of_getElem? (i := 280) (by decide +kernel), List.mem_of_getElem? (i := 404) (by decide +kernel), List.mem_of_getElem? (i := 405) (by decide +kernel)⟩
theorem lw_p5 : lw_okq (⟨"FearLocks$LawReader", "open", "(I)Z"⟩, 2) := ⟨⟨by decide +kernel, by decide +kernel⟩, List.mem_of_getElem? (i := 280) (by decide +kernel), List.mem_of_getElem? (i := 408) (by decide +kernel), List.mem_of_getElem? (i := 409) (by decide +kernel)⟩
theorem lw_p6 : lw_okq (⟨"FearLocks$LawReader", "readAnyOf", "(I)Z"⟩, 2) := ⟨⟨by decide +kernel, by decide +kernel⟩, List.mem_of_getElem? (i := 280) (by decide +kernel), List.mem_of_getElem? (i := 502) (by decide +kernel), List.mem_of_getElem? (i := 503) (by decide +kernel)⟩
theorem lw_p7 : lw_okq (⟨"FearLocks$LawReader", "readAllOf", "(I)Z"⟩, 2) := ⟨⟨by decide +kernel, by decide +kernel⟩, List.mem_of_getElem? (i := 280) (by decide +kernel), List.mem_of_getElem? (i := 506) (by decide +kernel), List.mem_of_getElem? (i := 507) (by decide +kernel)⟩
theorem lw_p8 : lw_okq (⟨"FearLocks$LawReader", "readTest", "(I)Z"⟩, 2) := ⟨⟨by decide +kernel, by decide +kernel⟩, List.mem_of_getElem? (i := 280) (by decide +kernel), List.mem_of_getElem? (i := 510) (by decide +kernel), List.mem_of_getElem? (i := 511) (by decide +kernel)⟩
theorem lw_p9 : lw_okq (⟨"FearLocks$LawReader", "readNegation", "(I)Z"⟩, 2) := ⟨⟨by decide +kernel, by decide +kernel⟩, List.mem_of_getElem? (i := 280) (by decide +kernel), List.mem_of_getElem? (i := 514) (by decide +kernel), List.mem_of_getElem? (i := 515) (by decide +kernel)⟩
theorem lw_p10 : lw_okq (⟨"FearLocks$LawReader", "readComparison", "(I)Z"⟩, 2) := ⟨⟨by decide +kernel, by decide +kernel⟩, List.mem_of_getElem? (i := 280) (by decide +kernel), List.mem_of_getElem? (i := 518) (by decide +kernel), List.mem_of_getElem? (i := 519) (by decide +kernel)⟩
theorem lw_p11 : lw_okq (⟨"FearLocks$OrdersReader", "readDoor", "()Z"⟩, 2) := ⟨⟨by decide +kernel, by decide +kernel⟩, List.mem_of_getElem? (i := 537) (by decide +kernel), List.mem_of_getElem? (i := 535) (by decide +kernel), List.mem_of_getElem? (i := 536) (by decide +kernel)⟩
theorem lw_p12 : lw_okq (⟨"FearLocks$OrdersReader", "readLock", "(I)Z"⟩, 2) := ⟨⟨by decide +kernel, by decide +kernel⟩, List.mem_of_getElem? (i := 537) (by decide +kernel), List.mem_of_getElem? (i := 552) (by decide +kernel), List.mem_of_getElem? (i := 553) (by decide +kernel)⟩
theorem lw_p13 : lw_okq (⟨"FearLocks$OrdersReader", "readAcquaintance", "()Z"⟩, 2) := ⟨⟨by decide +kernel, by decide +kernel⟩, List.mem_of_getElem? (i := 537) (by decide +kernel), List.mem_of_getElem? (i := 562) (by decide +kernel), List.mem_of_getElem? (i := 563) (by decide +kernel)⟩
theorem lw_p14 : lw_okq (⟨"FearLocks$OrdersReader", "readPerson", "()I"⟩, 2) := ⟨⟨by decide +kernel, by decide +kernel⟩, List.mem_of_getElem? (i := 537) (by decide +kernel), List.mem_of_getElem? (i := 566) (by decide +kernel), List.mem_of_getElem? (i := 567) (by decide +kernel)⟩
theorem lw_p15 : lw_okq (⟨"FearLocks$Nightfall", "goOut", "(LFearLocks$City;LFearLocks$Law;I)V"⟩, 3) := ⟨⟨by decide +kernel, by decide +kernel⟩, List.mem_of_getElem? (i := 165) (by decide +kernel), List.mem_of_getElem? (i := 632) (by decide +kernel), List.mem_of_getElem? (i := 633) (by decide +kernel)⟩
def lw_privs_1 : List (MethodName × Nat) := [(⟨"FearLocks$DreadsReader", "readFears", "()I"⟩, 3), (⟨"FearLocks$DreadsReader", "change", "(III)V"⟩, 3), (⟨"FearLocks$LawReader", "readSum", "(I)Z"⟩, 2), (⟨"FearLocks$LawReader", "readProduct", "(I)Z"⟩, 2), (⟨"FearLocks$LawReader", "readFactor", "(I)Z"⟩, 2), (⟨"FearLocks$LawReader", "open", "(I)Z"⟩, 2), (⟨"FearLocks$LawReader", "readAnyOf", "(I)Z"⟩, 2), (⟨"FearLocks$LawReader", "readAllOf", "(I)Z"⟩, 2), (⟨"FearLocks$LawReader", "readTest", "(I)Z"⟩, 2), (⟨"FearLocks$LawReader", "readNegation", "(I)Z"⟩, 2), (⟨"FearLocks$LawReader", "readComparison", "(I)Z"⟩, 2), (⟨"FearLocks$OrdersReader", "readDoor", "()Z"⟩, 2), (⟨"FearLocks$OrdersReader", "readLock", "(I)Z"⟩, 2), (⟨"FearLocks$OrdersReader", "readAcquaintance", "()Z"⟩, 2), (⟨"FearLocks$OrdersReader", "readPerson", "()I"⟩, 2), (⟨"FearLocks$Nightfall", "goOut", "(LFearLocks$City;LFearLocks$Law;I)V"⟩, 3)]
theorem lw_r1 : ∀ q ∈ lw_privs_1, lw_okq q := List.forall_mem_cons.mpr ⟨lw_p0, List.forall_mem_cons.mpr ⟨lw_p1, List.forall_mem_cons.mpr ⟨lw_p2, List.forall_mem_cons.mpr ⟨lw_p3, List.forall_mem_cons.mpr ⟨lw_p4, List.forall_mem_cons.mpr ⟨lw_p5, List.forall_mem_cons.mpr ⟨lw_p6, List.forall_mem_cons.mpr ⟨lw_p7, List.forall_mem_cons.mpr ⟨lw_p8, List.forall_mem_cons.mpr ⟨lw_p9, List.forall_mem_cons.mpr ⟨lw_p10, List.forall_mem_cons.mpr ⟨lw_p11, List.forall_mem_cons.mpr ⟨lw_p12, List.forall_mem_cons.mpr ⟨lw_p13, List.forall_mem_cons.mpr ⟨lw_p14, List.forall_mem_cons.mpr ⟨lw_p15, fun _ h => absurd h List.not_mem_nil⟩⟩⟩⟩⟩⟩⟩⟩⟩⟩⟩⟩⟩⟩⟩⟩
theorem lw_p16 : lw_okq (⟨"FearLocks$Law", "reckon", "(I)I"⟩, 10) := ⟨⟨by decide +kernel, by decide +kernel⟩, List.mem_of_getElem? (i := 115) (by decide +kernel), List.mem_of_getElem? (i := 677) (by decide +kernel), List.mem_of_getElem? (i := 678) (by decide +kernel)⟩
theorem lw_p17 : lw_okq (⟨"FearLocks$Law", "push", "(I)V"⟩, 10) := ⟨⟨by decide +kernel, by decide +kernel⟩, List.mem_of_getElem? (i := 115) (by decide +kernel), List.mem_of_getElem? (i := 682) (by decide +kernel), List.mem_of_getElem? (i := 683) (by decide +kernel)⟩
theorem lw_p18 : lw_okq (⟨"FearLocks$Law", "meaningOf", "(I)I"⟩, 10) := ⟨⟨by decide +kernel, by decide +kernel⟩, List.mem_of_getElem? (i := 115) (by decide +kernel), List.mem_of_getElem? (i := 686) (by decide +kernel), List.mem_of_getElem? (i := 687) (by decide +kernel)⟩
theorem lw_p19 : lw_okq (⟨"FearLocks$Law", "pop", "()I"⟩, 10) := ⟨⟨by decide +kernel, by decide +kernel⟩, List.mem_of_getElem? (i := 115) (by decide +kernel), List.mem_of_getElem? (i := 690) (by decide +kernel), List.mem_of_getElem? (i := 691) (by decide +kernel)⟩
theorem lw_p20 : lw_okq (⟨"FearLocks$Nightfall", "tryDoor", "(LFearLocks$City;LFearLocks$Law;II)V"⟩, 3) := ⟨⟨by decide +kernel, by decide +kernel⟩, List.mem_of_getElem? (i := 165) (by decide +kernel), List.mem_of_getElem? (i := 710) (by decide +kernel), List.mem_of_getElem? (i := 711) (by decide +kernel)⟩
theorem lw_p21 : lw_okq (⟨"FearLocks$Nightfall", "spreadDread", "(LFearLocks$City;LFearLocks$Law;)V"⟩, 3) := ⟨⟨by decide +kernel, by decide +kernel⟩, List.mem_of_getElem? (i := 165) (by decide +kernel), List.mem_of_getElem? (i := 727) (by decide +kernel), List.mem_of_getElem? (i := 728) (by decide +kernel)⟩
theorem lw_p22 : lw_okq (⟨"FearLocks$Nightfall", "catchDread", "(LFearLocks$City;LFearLocks$Law;II)V"⟩, 3) := ⟨⟨by decide +kernel, by decide +kernel⟩, List.mem_of_getElem? (i := 165) (by decide +kernel), List.mem_of_getElem? (i := 733) (by decide +kernel), List.mem_of_getElem? (i := 734) (by decide +kernel)⟩
theorem lw_p23 : lw_okq (⟨"FearLocks", "canBeTried", "(I)Z"⟩, 11) := ⟨⟨by decide +kernel, by decide +kernel⟩, List.mem_of_getElem? (i := 22) (by decide +kernel), List.mem_of_getElem? (i := 742) (by decide +kernel), List.mem_of_getElem? (i := 743) (by decide +kernel)⟩
theorem lw_p24 : lw_okq (⟨"FearLocks$Keys", "openedBy", "(I)I"⟩, 1) := ⟨⟨by decide +kernel, by decide +kernel⟩, List.mem_of_getElem? (i := 185) (by decide +kernel), List.mem_of_getElem? (i := 801) (by decide +kernel), List.mem_of_getElem? (i := 802) (by decide +kernel)⟩
theorem lw_p25 : lw_okq (⟨"FearLocks$Company", "linkFellows", "(LFearLocks$City;I)V"⟩, 2) := ⟨⟨by decide +kernel, by decide +kernel⟩, List.mem_of_getElem? (i := 195) (by decide +kernel), List.mem_of_getElem? (i := 823) (by decide +kernel), List.mem_of_getElem? (i := 824) (by decide +kernel)⟩
theorem lw_p26 : lw_okq (⟨"FearLocks$Company", "mostWith", "(II)I"⟩, 2) := ⟨⟨by decide +kernel, by decide +kernel⟩, List.mem_of_getElem? (i := 195) (by decide +kernel), List.mem_of_getElem? (i := 831) (by decide +kernel), List.mem_of_getElem? (i := 832) (by decide +kernel)⟩
theorem lw_p27 : lw_okq (⟨"FearLocks$Pastimes", "wordsWithOneMore", "(II)J"⟩, 2) := ⟨⟨by decide +kernel, by decide +kernel⟩, List.mem_of_getElem? (i := 208) (by decide +kernel), List.mem_of_getElem? (i := 983) (by decide +kernel), List.mem_of_getElem? (i := 984) (by decide +kernel)⟩
theorem lw_p28 : lw_okq (⟨"FearLocksModel", "types", "(I)V"⟩, 52) := ⟨⟨by decide +kernel, by decide +kernel⟩, List.mem_of_getElem? (i := 1033) (by decide +kernel), List.mem_of_getElem? (i := 1202) (by decide +kernel), List.mem_of_getElem? (i := 1203) (by decide +kernel)⟩
theorem lw_p29 : lw_okq (⟨"FearLocksModel", "beginsText", "(I)V"⟩, 52) := ⟨⟨by decide +kernel, by decide +kernel⟩, List.mem_of_getElem? (i := 1033) (by decide +kernel), List.mem_of_getElem? (i := 1213) (by decide +kernel), List.mem_of_getElem? (i := 1214) (by decide +kernel)⟩
theorem lw_p30 : lw_okq (⟨"FearLocksModel", "readsRule", "()Z"⟩, 52) := ⟨⟨by decide +kernel, by decide +kernel⟩, List.mem_of_getElem? (i := 1033) (by decide +kernel), List.mem_of_getElem? (i := 1217) (by decide +kernel), List.mem_of_getElem? (i := 1218) (by decide +kernel)⟩
theorem lw_p31 : lw_okq (⟨"FearLocksModel", "here", "()I"⟩, 52) := ⟨⟨by decide +kernel, by decide +kernel⟩, List.mem_of_getElem? (i := 1033) (by decide +kernel), List.mem_of_getElem? (i := 1221) (by decide +kernel), List.mem_of_getElem? (i := 1222) (by decide +kernel)⟩
def lw_privs_2 : List (MethodName × Nat) := [(⟨"FearLocks$Law", "reckon", "(I)I"⟩, 10), (⟨"FearLocks$Law", "push", "(I)V"⟩, 10), (⟨"FearLocks$Law", "meaningOf", "(I)I"⟩, 10), (⟨"FearLocks$Law", "pop", "()I"⟩, 10), (⟨"FearLocks$Nightfall", "tryDoor", "(LFearLocks$City;LFearLocks$Law;II)V"⟩, 3), (⟨"FearLocks$Nightfall", "spreadDread", "(LFearLocks$City;LFearLocks$Law;)V"⟩, 3), (⟨"FearLocks$Nightfall", "catchDread", "(LFearLocks$City;LFearLocks$Law;II)V"⟩, 3), (⟨"FearLocks", "canBeTried", "(I)Z"⟩, 11), (⟨"FearLocks$Keys", "openedBy", "(I)I"⟩, 1), (⟨"FearLocks$Company", "linkFellows", "(LFearLocks$City;I)V"⟩, 2), (⟨"FearLocks$Company", "mostWith", "(II)I"⟩, 2), (⟨"FearLocks$Pastimes", "wordsWithOneMore", "(II)J"⟩, 2), (⟨"FearLocksModel", "types", "(I)V"⟩, 52), (⟨"FearLocksModel", "beginsText", "(I)V"⟩, 52), (⟨"FearLocksModel", "readsRule", "()Z"⟩, 52), (⟨"FearLocksModel", "here", "()I"⟩, 52)]
theorem lw_r2 : ∀ q ∈ lw_privs_2, lw_okq q := List.forall_mem_cons.mpr ⟨lw_p16, List.forall_mem_cons.mpr ⟨lw_p17, List.forall_mem_cons.mpr ⟨lw_p18, List.forall_mem_cons.mpr ⟨lw_p19, List.forall_mem_cons.mpr ⟨lw_p20, List.forall_mem_cons.mpr ⟨lw_p21, List.forall_mem_cons.mpr ⟨lw_p22, List.forall_mem_cons.mpr ⟨lw_p23, List.forall_mem_cons.mpr ⟨lw_p24, List.forall_mem_cons.mpr ⟨lw_p25, List.forall_mem_cons.mpr ⟨lw_p26, List.forall_mem_cons.mpr ⟨lw_p27, List.forall_mem_cons.mpr ⟨lw_p28, List.forall_mem_cons.mpr ⟨lw_p29, List.forall_mem_cons.mpr ⟨lw_p30, List.forall_mem_cons.mpr ⟨lw_p31, fun _ h => absurd h List.not_mem_nil⟩⟩⟩⟩⟩⟩⟩⟩⟩⟩⟩⟩⟩⟩⟩⟩
theorem lw_p32 : lw_okq (⟨"FearLocksModel", "wrongAt", "(II)Z"⟩, 52) := ⟨⟨by decide +kernel, by decide +kernel⟩, List.mem_of_getElem? (i := 1033) (by decide +kernel), List.mem_of_getElem? (i := 1225) (by decide +kernel), List.mem_of_getElem? (i := 1226) (by decide +kernel)⟩
theorem lw_p33 : lw_okq (⟨"FearLocksModel", "readsSum", "()Z"⟩, 52) := ⟨⟨by decide +kernel, by decide +kernel⟩, List.mem_of_getElem? (i := 1033) (by decide +kernel), List.mem_of_getElem? (i := 1229) (by decide +kernel), List.mem_of_getElem? (i := 1230) (by decide +kernel)⟩
theorem lw_p34 : lw_okq (⟨"FearLocksModel", "readsFactor", "()Z"⟩, 52) := ⟨⟨by decide +kernel, by decide +kernel⟩, List.mem_of_getElem? (i := 1033) (by decide +kernel), List.mem_of_getElem? (i := 1233) (by decide +kernel), List.mem_of_getElem? (i := 1234) (by decide +kernel)⟩
theorem lw_p35 : lw_okq (⟨"FearLocksModel", "opens", "(I)Z"⟩, 52) := ⟨⟨by decide +kernel, by decide +kernel⟩, List.mem_of_getElem? (i := 1033) (by decide +kernel), List.mem_of_getElem? (i := 1237) (by decide +kernel), List.mem_of_getElem? (i := 1238) (by decide +kernel)⟩
theorem lw_p36 : lw_okq (⟨"FearLocksModel", "isDigit", "()Z"⟩, 52) := ⟨⟨by decide +kernel, by decide +kernel⟩, List.mem_of_getElem? (i := 1033) (by decide +kernel), List.mem_of_getElem? (i := 1242) (by decide +kernel), List.mem_of_getElem? (i := 1243) (by decide +kernel)⟩
theorem lw_p37 : lw_okq (⟨"FearLocksModel", "readsNumber", "()Z"⟩, 52) := ⟨⟨by decide +kernel, by decide +kernel⟩, List.mem_of_getElem? (i := 1033) (by decide +kernel), List.mem_of_getElem? (i := 1246) (by decide +kernel), List.mem_of_getElem? (i := 1247) (by decide +kernel)⟩
theorem lw_p38 : lw_okq (⟨"FearLocksModel", "notes", "(II)V"⟩, 52) := ⟨⟨by decide +kernel, by decide +kernel⟩, List.mem_of_getElem? (i := 1033) (by decide +kernel), List.mem_of_getElem? (i := 1250) (by decide +kernel), List.mem_of_getElem? (i := 1251) (by decide +kernel)⟩
theorem lw_p39 : lw_okq (⟨"FearLocksModel", "closesSums", "(Z)V"⟩, 52) := ⟨⟨by decide +kernel, by decide +kernel⟩, List.mem_of_getElem? (i := 1033) (by decide +kernel), List.mem_of_getElem? (i := 1260) (by decide +kernel), List.mem_of_getElem? (i := 1261) (by decide +kernel)⟩
theorem lw_p40 : lw_okq (⟨"FearLocksModel", "waitTop", "()I"⟩, 52) := ⟨⟨by decide +kernel, by decide +kernel⟩, List.mem_of_getElem? (i := 1033) (by decide +kernel), List.mem_of_getElem? (i := 1264) (by decide +kernel), List.mem_of_getElem? (i := 1265) (by decide +kernel)⟩
theorem lw_p41 : lw_okq (⟨"FearLocksModel", "hasOpenSum", "(I)Z"⟩, 52) := ⟨⟨by decide +kernel, by decide +kernel⟩, List.mem_of_getElem? (i := 1033) (by decide +kernel), List.mem_of_getElem? (i := 1268) (by decide +kernel), List.mem_of_getElem? (i := 1269) (by decide +kernel)⟩
theorem lw_p42 : lw_okq (⟨"FearLocksModel", "readsCondition", "()Z"⟩, 52) := ⟨⟨by decide +kernel, by decide +kernel⟩, List.mem_of_getElem? (i := 1033) (by decide +kernel), List.mem_of_getElem? (i := 1272) (by decide +kernel), List.mem_of_getElem? (i := 1273) (by decide +kernel)⟩
theorem lw_p43 : lw_okq (⟨"FearLocksModel", "readsCompared", "()Z"⟩, 52) := ⟨⟨by decide +kernel, by decide +kernel⟩, List.mem_of_getElem? (i := 1033) (by decide +kernel), List.mem_of_getElem? (i := 1276) (by decide +kernel), List.mem_of_getElem? (i := 1277) (by decide +kernel)⟩
theorem lw_p44 : lw_okq (⟨"FearLocksModel", "endsPiece", "()V"⟩, 52) := ⟨⟨by decide +kernel, by decide +kernel⟩, List.mem_of_getElem? (i := 1033) (by decide +kernel), List.mem_of_getElem? (i := 1280) (by decide +kernel), List.mem_of_getElem? (i := 1281) (by decide +kernel)⟩
theorem lw_p45 : lw_okq (⟨"FearLocksModel", "lands", "(Z)V"⟩, 52) := ⟨⟨by decide +kernel, by decide +kernel⟩, List.mem_of_getElem? (i := 1033) (by decide +kernel), List.mem_of_getElem? (i := 1284) (by decide +kernel), List.mem_of_getElem? (i := 1285) (by decide +kernel)⟩
theorem lw_p46 : lw_okq (⟨"FearLocksModel", "jumps", "(I)V"⟩, 52) := ⟨⟨by decide +kernel, by decide +kernel⟩, List.mem_of_getElem? (i := 1033) (by decide +kernel), List.mem_of_getElem? (i := 1288) (by decide +kernel), List.mem_of_getElem? (i := 1289) (by decide +kernel)⟩
theorem lw_p47 : lw_okq (⟨"FearLocksModel", "takes", "(I)Z"⟩, 52) := ⟨⟨by decide +kernel, by decide +kernel⟩, List.mem_of_getElem? (i := 1033) (by decide +kernel), List.mem_of_getElem? (i := 1292) (by decide +kernel), List.mem_of_getElem? (i := 1293) (by decide +kernel)⟩
def lw_privs_3 : List (MethodName × Nat) := [(⟨"FearLocksModel", "wrongAt", "(II)Z"⟩, 52), (⟨"FearLocksModel", "readsSum", "()Z"⟩, 52), (⟨"FearLocksModel", "readsFactor", "()Z"⟩, 52), (⟨"FearLocksModel", "opens", "(I)Z"⟩, 52), (⟨"FearLocksModel", "isDigit", "()Z"⟩, 52), (⟨"FearLocksModel", "readsNumber", "()Z"⟩, 52), (⟨"FearLocksModel", "notes", "(II)V"⟩, 52), (⟨"FearLocksModel", "closesSums", "(Z)V"⟩, 52), (⟨"FearLocksModel", "waitTop", "()I"⟩, 52), (⟨"FearLocksModel", "hasOpenSum", "(I)Z"⟩, 52), (⟨"FearLocksModel", "readsCondition", "()Z"⟩, 52), (⟨"FearLocksModel", "readsCompared", "()Z"⟩, 52), (⟨"FearLocksModel", "endsPiece", "()V"⟩, 52), (⟨"FearLocksModel", "lands", "(Z)V"⟩, 52), (⟨"FearLocksModel", "jumps", "(I)V"⟩, 52), (⟨"FearLocksModel", "takes", "(I)Z"⟩, 52)]
theorem lw_r3 : ∀ q ∈ lw_privs_3, lw_okq q := List.forall_mem_cons.mpr ⟨lw_p32, List.forall_mem_cons.mpr ⟨lw_p33, List.forall_mem_cons.mpr ⟨lw_p34, List.forall_mem_cons.mpr ⟨lw_p35, List.forall_mem_cons.mpr ⟨lw_p36, List.forall_mem_cons.mpr ⟨lw_p37, List.forall_mem_cons.mpr ⟨lw_p38, List.forall_mem_cons.mpr ⟨lw_p39, List.forall_mem_cons.mpr ⟨lw_p40, List.forall_mem_cons.mpr ⟨lw_p41, List.forall_mem_cons.mpr ⟨lw_p42, List.forall_mem_cons.mpr ⟨lw_p43, List.forall_mem_cons.mpr ⟨lw_p44, List.forall_mem_cons.mpr ⟨lw_p45, List.forall_mem_cons.mpr ⟨lw_p46, List.forall_mem_cons.mpr ⟨lw_p47, fun _ h => absurd h List.not_mem_nil⟩⟩⟩⟩⟩⟩⟩⟩⟩⟩⟩⟩⟩⟩⟩⟩
theorem lw_p48 : lw_okq (⟨"FearLocksModel", "readsDread", "(I)Z"⟩, 52) := ⟨⟨by decide +kernel, by decide +kernel⟩, List.mem_of_getElem? (i := 1033) (by decide +kernel), List.mem_of_getElem? (i := 1303) (by decide +kernel), List.mem_of_getElem? (i := 1304) (by decide +kernel)⟩
theorem lw_p49 : lw_okq (⟨"FearLocksModel", "isLetter", "()Z"⟩, 52) := ⟨⟨by decide +kernel, by decide +kernel⟩, List.mem_of_getElem? (i := 1033) (by decide +kernel), List.mem_of_getElem? (i := 1307) (by decide +kernel), List.mem_of_getElem? (i := 1308) (by decide +kernel)⟩
theorem lw_p50 : lw_okq (⟨"FearLocksModel", "readsMeant", "()Z"⟩, 52) := ⟨⟨by decide +kernel, by decide +kernel⟩, List.mem_of_getElem? (i := 1033) (by decide +kernel), List.mem_of_getElem? (i := 1311) (by decide +kernel), List.mem_of_getElem? (i := 1312) (by decide +kernel)⟩
theorem lw_p51 : lw_okq (⟨"FearLocksModel", "readsAmount", "()Z"⟩, 52) := ⟨⟨by decide +kernel, by decide +kernel⟩, List.mem_of_getElem? (i := 1033) (by decide +kernel), List.mem_of_getElem? (i := 1319) (by decide +kernel), List.mem_of_getElem? (i := 1320) (by decide +kernel)⟩
theorem lw_p52 : lw_okq (⟨"FearLocksModel", "laysAside", "()V"⟩, 52) := ⟨⟨by decide +kernel, by decide +kernel⟩, List.mem_of_getElem? (i := 1033) (by decide +kernel), List.mem_of_getElem? (i := 1336) (by decide +kernel), List.mem_of_getElem? (i := 1337) (by decide +kernel)⟩
theorem lw_p53 : lw_okq (⟨"FearLocksModel", "readsOrder", "()Z"⟩, 52) := ⟨⟨by decide +kernel, by decide +kernel⟩, List.mem_of_getElem? (i := 1033) (by decide +kernel), List.mem_of_getElem? (i := 1340) (by decide +kernel), List.mem_of_getElem? (i := 1341) (by decide +kernel)⟩
theorem lw_p54 : lw_okq (⟨"FearLocksModel", "readsTwo", "()Z"⟩, 52) := ⟨⟨by decide +kernel, by decide +kernel⟩, List.mem_of_getElem? (i := 1033) (by decide +kernel), List.mem_of_getElem? (i := 1344) (by decide +kernel), List.mem_of_getElem? (i := 1345) (by decide +kernel)⟩
theorem lw_p55 : lw_okq (⟨"FearLocksModel", "readsOne", "()Z"⟩, 52) := ⟨⟨by decide +kernel, by decide +kernel⟩, List.mem_of_getElem? (i := 1033) (by decide +kernel), List.mem_of_getElem? (i := 1348) (by decide +kernel), List.mem_of_getElem? (i := 1349) (by decide +kernel)⟩
theorem lw_p56 : lw_okq (⟨"FearLocksModel", "isTold", "(I)Z"⟩, 52) := ⟨⟨by decide +kernel, by decide +kernel⟩, List.mem_of_getElem? (i := 1033) (by decide +kernel), List.mem_of_getElem? (i := 1352) (by decide +kernel), List.mem_of_getElem? (i := 1353) (by decide +kernel)⟩
theorem lw_p57 : lw_okq (⟨"FearLocksModel", "readsDoor", "()Z"⟩, 52) := ⟨⟨by decide +kernel, by decide +kernel⟩, List.mem_of_getElem? (i := 1033) (by decide +kernel), List.mem_of_getElem? (i := 1356) (by decide +kernel), List.mem_of_getElem? (i := 1357) (by decide +kernel)⟩
theorem lw_p58 : lw_okq (⟨"FearLocksModel", "isDoor", "(I)Z"⟩, 52) := ⟨⟨by decide +kernel, by decide +kernel⟩, List.mem_of_getElem? (i := 1033) (by decide +kernel), List.mem_of_getElem? (i := 1360) (by decide +kernel), List.mem_of_getElem? (i := 1361) (by decide +kernel)⟩
theorem lw_p59 : lw_okq (⟨"FearLocksModel", "putsBack", "()V"⟩, 52) := ⟨⟨by decide +kernel, by decide +kernel⟩, List.mem_of_getElem? (i := 1033) (by decide +kernel), List.mem_of_getElem? (i := 1364) (by decide +kernel), List.mem_of_getElem? (i := 1365) (by decide +kernel)⟩
theorem lw_p60 : lw_okq (⟨"FearLocksModel", "nightsGo", "(I)V"⟩, 52) := ⟨⟨by decide +kernel, by decide +kernel⟩, List.mem_of_getElem? (i := 1033) (by decide +kernel), List.mem_of_getElem? (i := 1372) (by decide +kernel), List.mem_of_getElem? (i := 1373) (by decide +kernel)⟩
theorem lw_p61 : lw_okq (⟨"FearLocksModel", "nightGoes", "()V"⟩, 52) := ⟨⟨by decide +kernel, by decide +kernel⟩, List.mem_of_getElem? (i := 1033) (by decide +kernel), List.mem_of_getElem? (i := 1376) (by decide +kernel), List.mem_of_getElem? (i := 1377) (by decide +kernel)⟩
theorem lw_p62 : lw_okq (⟨"FearLocksModel", "goesOut", "(I)V"⟩, 52) := ⟨⟨by decide +kernel, by decide +kernel⟩, List.mem_of_getElem? (i := 1033) (by decide +kernel), List.mem_of_getElem? (i := 1380) (by decide +kernel), List.mem_of_getElem? (i := 1381) (by decide +kernel)⟩
theorem lw_p63 : lw_okq (⟨"FearLocksModel", "feels", "(II)V"⟩, 52) := ⟨⟨by decide +kernel, by decide +kernel⟩, List.mem_of_getElem? (i := 1033) (by decide +kernel), List.mem_of_getElem? (i := 1385) (by decide +kernel), List.mem_of_getElem? (i := 1386) (by decide +kernel)⟩
def lw_privs_4 : List (MethodName × Nat) := [(⟨"FearLocksModel", "readsDread", "(I)Z"⟩, 52), (⟨"FearLocksModel", "isLetter", "()Z"⟩, 52), (⟨"FearLocksModel", "readsMeant", "()Z"⟩, 52), (⟨"FearLocksModel", "readsAmount", "()Z"⟩, 52), (⟨"FearLocksModel", "laysAside", "()V"⟩, 52), (⟨"FearLocksModel", "readsOrder", "()Z"⟩, 52), (⟨"FearLocksModel", "readsTwo", "()Z"⟩, 52), (⟨"FearLocksModel", "readsOne", "()Z"⟩, 52), (⟨"FearLocksModel", "isTold", "(I)Z"⟩, 52), (⟨"FearLocksModel", "readsDoor", "()Z"⟩, 52), (⟨"FearLocksModel", "isDoor", "(I)Z"⟩, 52), (⟨"FearLocksModel", "putsBack", "()V"⟩, 52), (⟨"FearLocksModel", "nightsGo", "(I)V"⟩, 52), (⟨"FearLocksModel", "nightGoes", "()V"⟩, 52), (⟨"FearLocksModel", "goesOut", "(I)V"⟩, 52), (⟨"FearLocksModel", "feels", "(II)V"⟩, 52)]
theorem lw_r4 : ∀ q ∈ lw_privs_4, lw_okq q := List.forall_mem_cons.mpr ⟨lw_p48, List.forall_mem_cons.mpr ⟨lw_p49, List.forall_mem_cons.mpr ⟨lw_p50, List.forall_mem_cons.mpr ⟨lw_p51, List.forall_mem_cons.mpr ⟨lw_p52, List.forall_mem_cons.mpr ⟨lw_p53, List.forall_mem_cons.mpr ⟨lw_p54, List.forall_mem_cons.mpr ⟨lw_p55, List.forall_mem_cons.mpr ⟨lw_p56, List.forall_mem_cons.mpr ⟨lw_p57, List.forall_mem_cons.mpr ⟨lw_p58, List.forall_mem_cons.mpr ⟨lw_p59, List.forall_mem_cons.mpr ⟨lw_p60, List.forall_mem_cons.mpr ⟨lw_p61, List.forall_mem_cons.mpr ⟨lw_p62, List.forall_mem_cons.mpr ⟨lw_p63, fun _ h => absurd h List.not_mem_nil⟩⟩⟩⟩⟩⟩⟩⟩⟩⟩⟩⟩⟩⟩⟩⟩
theorem lw_p64 : lw_okq (⟨"FearLocksModel", "greatest", "(I)I"⟩, 52) := ⟨⟨by decide +kernel, by decide +kernel⟩, List.mem_of_getElem? (i := 1033) (by decide +kernel), List.mem_of_getElem? (i := 1389) (by decide +kernel), List.mem_of_getElem? (i := 1390) (by decide +kernel)⟩
theorem lw_p65 : lw_okq (⟨"FearLocksModel", "dread", "(II)I"⟩, 52) := ⟨⟨by decide +kernel, by decide +kernel⟩, List.mem_of_getElem? (i := 1033) (by decide +kernel), List.mem_of_getElem? (i := 1393) (by decide +kernel), List.mem_of_getElem? (i := 1394) (by decide +kernel)⟩
theorem lw_p66 : lw_okq (⟨"FearLocksModel", "holdsAny", "(I)Z"⟩, 52) := ⟨⟨by decide +kernel, by decide +kernel⟩, List.mem_of_getElem? (i := 1033) (by decide +kernel), List.mem_of_getElem? (i := 1400) (by decide +kernel), List.mem_of_getElem? (i := 1401) (by decide +kernel)⟩
theorem lw_p67 : lw_okq (⟨"FearLocksModel", "reckonsTo", "(II)I"⟩, 52) := ⟨⟨by decide +kernel, by decide +kernel⟩, List.mem_of_getElem? (i := 1033) (by decide +kernel), List.mem_of_getElem? (i := 1404) (by decide +kernel), List.mem_of_getElem? (i := 1405) (by decide +kernel)⟩
theorem lw_p68 : lw_okq (⟨"FearLocksModel", "likedMost", "(II)I"⟩, 52) := ⟨⟨by decide +kernel, by decide +kernel⟩, List.mem_of_getElem? (i := 1033) (by decide +kernel), List.mem_of_getElem? (i := 1411) (by decide +kernel), List.mem_of_getElem? (i := 1412) (by decide +kernel)⟩
theorem lw_p69 : lw_okq (⟨"FearLocksModel", "feelsDoor", "(III)V"⟩, 52) := ⟨⟨by decide +kernel, by decide +kernel⟩, List.mem_of_getElem? (i := 1033) (by decide +kernel), List.mem_of_getElem? (i := 1415) (by decide +kernel), List.mem_of_getElem? (i := 1416) (by decide +kernel)⟩
theorem lw_p70 : lw_okq (⟨"FearLocksModel", "byLaw", "(II)I"⟩, 52) := ⟨⟨by decide +kernel, by decide +kernel⟩, List.mem_of_getElem? (i := 1033) (by decide +kernel), List.mem_of_getElem? (i := 1419) (by decide +kernel), List.mem_of_getElem? (i := 1420) (by decide +kernel)⟩
theorem lw_p71 : lw_okq (⟨"FearLocksModel", "triesDoor", "(III)V"⟩, 52) := ⟨⟨by decide +kernel, by decide +kernel⟩, List.mem_of_getElem? (i := 1033) (by decide +kernel), List.mem_of_getElem? (i := 1423) (by decide +kernel), List.mem_of_getElem? (i := 1424) (by decide +kernel)⟩
theorem lw_p72 : lw_okq (⟨"FearLocksModel", "unlocks", "(II)Z"⟩, 52) := ⟨⟨by decide +kernel, by decide +kernel⟩, List.mem_of_getElem? (i := 1033) (by decide +kernel), List.mem_of_getElem? (i := 1427) (by decide +kernel), List.mem_of_getElem? (i := 1428) (by decide +kernel)⟩
theorem lw_p73 : lw_okq (⟨"FearLocksModel", "fearOf", "(I)I"⟩, 52) := ⟨⟨by decide +kernel, by decide +kernel⟩, List.mem_of_getElem? (i := 1033) (by decide +kernel), List.mem_of_getElem? (i := 1431) (by decide +kernel), List.mem_of_getElem? (i := 1432) (by decide +kernel)⟩
theorem lw_p74 : lw_okq (⟨"FearLocksModel", "catches", "()V"⟩, 52) := ⟨⟨by decide +kernel, by decide +kernel⟩, List.mem_of_getElem? (i := 1033) (by decide +kernel), List.mem_of_getElem? (i := 1435) (by decide +kernel), List.mem_of_getElem? (i := 1436) (by decide +kernel)⟩
theorem lw_p75 : lw_okq (⟨"FearLocksModel", "caughtBy", "(II)I"⟩, 52) := ⟨⟨by decide +kernel, by decide +kernel⟩, List.mem_of_getElem? (i := 1033) (by decide +kernel), List.mem_of_getElem? (i := 1439) (by decide +kernel), List.mem_of_getElem? (i := 1440) (by decide +kernel)⟩
theorem lw_p76 : lw_okq (⟨"FearLocksModel", "doorsOf", "(I)I"⟩, 52) := ⟨⟨by decide +kernel, by decide +kernel⟩, List.mem_of_getElem? (i := 1033) (by decide +kernel), List.mem_of_getElem? (i := 1454) (by decide +kernel), List.mem_of_getElem? (i := 1455) (by decide +kernel)⟩
theorem lw_p77 : lw_okq (⟨"FearLocksModel", "dreadSum", "(I)I"⟩, 52) := ⟨⟨by decide +kernel, by decide +kernel⟩, List.mem_of_getElem? (i := 1033) (by decide +kernel), List.mem_of_getElem? (i := 1458) (by decide +kernel), List.mem_of_getElem? (i := 1459) (by decide +kernel)⟩
theorem lw_p78 : lw_okq (⟨"FearLocksModel", "whoUnlocks", "(I)I"⟩, 52) := ⟨⟨by decide +kernel, by decide +kernel⟩, List.mem_of_getElem? (i := 1033) (by decide +kernel), List.mem_of_getElem? (i := 1466) (by decide +kernel), List.mem_of_getElem? (i := 1467) (by decide +kernel)⟩
theorem lw_p79 : lw_okq (⟨"FearLocksModel", "laysWho", "()V"⟩, 52) := ⟨⟨by decide +kernel, by decide +kernel⟩, List.mem_of_getElem? (i := 1033) (by decide +kernel), List.mem_of_getElem? (i := 1482) (by decide +kernel), List.mem_of_getElem? (i := 1483) (by decide +kernel)⟩
def lw_privs_5 : List (MethodName × Nat) := [(⟨"FearLocksModel", "greatest", "(I)I"⟩, 52), (⟨"FearLocksModel", "dread", "(II)I"⟩, 52), (⟨"FearLocksModel", "holdsAny", "(I)Z"⟩, 52), (⟨"FearLocksModel", "reckonsTo", "(II)I"⟩, 52), (⟨"FearLocksModel", "likedMost", "(II)I"⟩, 52), (⟨"FearLocksModel", "feelsDoor", "(III)V"⟩, 52), (⟨"FearLocksModel", "byLaw", "(II)I"⟩, 52), (⟨"FearLocksModel", "triesDoor", "(III)V"⟩, 52), (⟨"FearLocksModel", "unlocks", "(II)Z"⟩, 52), (⟨"FearLocksModel", "fearOf", "(I)I"⟩, 52), (⟨"FearLocksModel", "catches", "()V"⟩, 52), (⟨"FearLocksModel", "caughtBy", "(II)I"⟩, 52), (⟨"FearLocksModel", "doorsOf", "(I)I"⟩, 52), (⟨"FearLocksModel", "dreadSum", "(I)I"⟩, 52), (⟨"FearLocksModel", "whoUnlocks", "(I)I"⟩, 52), (⟨"FearLocksModel", "laysWho", "()V"⟩, 52)]
theorem lw_r5 : ∀ q ∈ lw_privs_5, lw_okq q := List.forall_mem_cons.mpr ⟨lw_p64, List.forall_mem_cons.mpr ⟨lw_p65, List.forall_mem_cons.mpr ⟨lw_p66, List.forall_mem_cons.mpr ⟨lw_p67, List.forall_mem_cons.mpr ⟨lw_p68, List.forall_mem_cons.mpr ⟨lw_p69, List.forall_mem_cons.mpr ⟨lw_p70, List.forall_mem_cons.mpr ⟨lw_p71, List.forall_mem_cons.mpr ⟨lw_p72, List.forall_mem_cons.mpr ⟨lw_p73, List.forall_mem_cons.mpr ⟨lw_p74, List.forall_mem_cons.mpr ⟨lw_p75, List.forall_mem_cons.mpr ⟨lw_p76, List.forall_mem_cons.mpr ⟨lw_p77, List.forall_mem_cons.mpr ⟨lw_p78, List.forall_mem_cons.mpr ⟨lw_p79, fun _ h => absurd h List.not_mem_nil⟩⟩⟩⟩⟩⟩⟩⟩⟩⟩⟩⟩⟩⟩⟩⟩
theorem lw_p80 : lw_okq (⟨"FearLocksModel", "isCrew", "(I)Z"⟩, 52) := ⟨⟨by decide +kernel, by decide +kernel⟩, List.mem_of_getElem? (i := 1033) (by decide +kernel), List.mem_of_getElem? (i := 1486) (by decide +kernel), List.mem_of_getElem? (i := 1487) (by decide +kernel)⟩
theorem lw_p81 : lw_okq (⟨"FearLocksModel", "areCouple", "(III)Z"⟩, 52) := ⟨⟨by decide +kernel, by decide +kernel⟩, List.mem_of_getElem? (i := 1033) (by decide +kernel), List.mem_of_getElem? (i := 1498) (by decide +kernel), List.mem_of_getElem? (i := 1499) (by decide +kernel)⟩
theorem lw_p82 : lw_okq (⟨"FearLocksModel", "firstWith", "(I)I"⟩, 52) := ⟨⟨by decide +kernel, by decide +kernel⟩, List.mem_of_getElem? (i := 1033) (by decide +kernel), List.mem_of_getElem? (i := 1509) (by decide +kernel), List.mem_of_getElem? (i := 1510) (by decide +kernel)⟩
theorem lw_p83 : lw_okq (⟨"FearLocksModel", "unlikeBy", "(II)I"⟩, 52) := ⟨⟨by decide +kernel, by decide +kernel⟩, List.mem_of_getElem? (i := 1033) (by decide +kernel), List.mem_of_getElem? (i := 1521) (by decide +kernel), List.mem_of_getElem? (i := 1522) (by decide +kernel)⟩
theorem lw_p84 : lw_okq (⟨"FearLocksModel", "circleOf", "(II)I"⟩, 52) := ⟨⟨by decide +kernel, by decide +kernel⟩, List.mem_of_getElem? (i := 1033) (by decide +kernel), List.mem_of_getElem? (i := 1533) (by decide +kernel), List.mem_of_getElem? (i := 1534) (by decide +kernel)⟩
theorem lw_p85 : lw_okq (⟨"FearLocksModel", "isKeystone", "(I)Z"⟩, 52) := ⟨⟨by decide +kernel, by decide +kernel⟩, List.mem_of_getElem? (i := 1033) (by decide +kernel), List.mem_of_getElem? (i := 1541) (by decide +kernel), List.mem_of_getElem? (i := 1542) (by decide +kernel)⟩
theorem lw_p86 : lw_okq (⟨"FearLocksModel", "groupOf", "(II)I"⟩, 52) := ⟨⟨by decide +kernel, by decide +kernel⟩, List.mem_of_getElem? (i := 1033) (by decide +kernel), List.mem_of_getElem? (i := 1545) (by decide +kernel), List.mem_of_getElem? (i := 1546) (by decide +kernel)⟩
theorem lw_p87 : lw_okq (⟨"FearLocksModel", "octet", "(I)I"⟩, 52) := ⟨⟨by decide +kernel, by decide +kernel⟩, List.mem_of_getElem? (i := 1033) (by decide +kernel), List.mem_of_getElem? (i := 1557) (by decide +kernel), List.mem_of_getElem? (i := 1558) (by decide +kernel)⟩
theorem lw_p88 : lw_okq (⟨"FearLocksModel", "bounds", "(II)Z"⟩, 52) := ⟨⟨by decide +kernel, by decide +kernel⟩, List.mem_of_getElem? (i := 1033) (by decide +kernel), List.mem_of_getElem? (i := 1561) (by decide +kernel), List.mem_of_getElem? (i := 1562) (by decide +kernel)⟩
theorem lw_p89 : lw_okq (⟨"FearLocksModel", "leaves", "(II)I"⟩, 52) := ⟨⟨by decide +kernel, by decide +kernel⟩, List.mem_of_getElem? (i := 1033) (by decide +kernel), List.mem_of_getElem? (i := 1569) (by decide +kernel), List.mem_of_getElem? (i := 1570) (by decide +kernel)⟩
theorem lw_p90 : lw_okq (⟨"FearLocksModel", "canStand", "(I)Z"⟩, 52) := ⟨⟨by decide +kernel, by decide +kernel⟩, List.mem_of_getElem? (i := 1033) (by decide +kernel), List.mem_of_getElem? (i := 1577) (by decide +kernel), List.mem_of_getElem? (i := 1578) (by decide +kernel)⟩
theorem lw_p91 : lw_okq (⟨"FearLocksModel", "nextOrder", "(I)Z"⟩, 52) := ⟨⟨by decide +kernel, by decide +kernel⟩, List.mem_of_getElem? (i := 1033) (by decide +kernel), List.mem_of_getElem? (i := 1581) (by decide +kernel), List.mem_of_getElem? (i := 1582) (by decide +kernel)⟩
theorem lw_p92 : lw_okq (⟨"FearLocksModel", "changesOrder", "(II)V"⟩, 52) := ⟨⟨by decide +kernel, by decide +kernel⟩, List.mem_of_getElem? (i := 1033) (by decide +kernel), List.mem_of_getElem? (i := 1585) (by decide +kernel), List.mem_of_getElem? (i := 1586) (by decide +kernel)⟩
theorem lw_p93 : lw_okq (⟨"FearLocksModel", "sleeps", "(III)I"⟩, 52) := ⟨⟨by decide +kernel, by decide +kernel⟩, List.mem_of_getElem? (i := 1033) (by decide +kernel), List.mem_of_getElem? (i := 1598) (by decide +kernel), List.mem_of_getElem? (i := 1599) (by decide +kernel)⟩
theorem lw_p94 : lw_okq (⟨"FearLocksModel", "twos", "()I"⟩, 52) := ⟨⟨by decide +kernel, by decide +kernel⟩, List.mem_of_getElem? (i := 1033) (by decide +kernel), List.mem_of_getElem? (i := 1622) (by decide +kernel), List.mem_of_getElem? (i := 1623) (by decide +kernel)⟩
theorem lw_p95 : lw_okq (⟨"FearLocksModel", "openedOfAll", "()I"⟩, 52) := ⟨⟨by decide +kernel, by decide +kernel⟩, List.mem_of_getElem? (i := 1033) (by decide +kernel), List.mem_of_getElem? (i := 1626) (by decide +kernel), List.mem_of_getElem? (i := 1627) (by decide +kernel)⟩
def lw_privs_6 : List (MethodName × Nat) := [(⟨"FearLocksModel", "isCrew", "(I)Z"⟩, 52), (⟨"FearLocksModel", "areCouple", "(III)Z"⟩, 52), (⟨"FearLocksModel", "firstWith", "(I)I"⟩, 52), (⟨"FearLocksModel", "unlikeBy", "(II)I"⟩, 52), (⟨"FearLocksModel", "circleOf", "(II)I"⟩, 52), (⟨"FearLocksModel", "isKeystone", "(I)Z"⟩, 52), (⟨"FearLocksModel", "groupOf", "(II)I"⟩, 52), (⟨"FearLocksModel", "octet", "(I)I"⟩, 52), (⟨"FearLocksModel", "bounds", "(II)Z"⟩, 52), (⟨"FearLocksModel", "leaves", "(II)I"⟩, 52), (⟨"FearLocksModel", "canStand", "(I)Z"⟩, 52), (⟨"FearLocksModel", "nextOrder", "(I)Z"⟩, 52), (⟨"FearLocksModel", "changesOrder", "(II)V"⟩, 52), (⟨"FearLocksModel", "sleeps", "(III)I"⟩, 52), (⟨"FearLocksModel", "twos", "()I"⟩, 52), (⟨"FearLocksModel", "openedOfAll", "()I"⟩, 52)]
theorem lw_r6 : ∀ q ∈ lw_privs_6, lw_okq q := List.forall_mem_cons.mpr ⟨lw_p80, List.forall_mem_cons.mpr ⟨lw_p81, List.forall_mem_cons.mpr ⟨lw_p82, List.forall_mem_cons.mpr ⟨lw_p83, List.forall_mem_cons.mpr ⟨lw_p84, List.forall_mem_cons.mpr ⟨lw_p85, List.forall_mem_cons.mpr ⟨lw_p86, List.forall_mem_cons.mpr ⟨lw_p87, List.forall_mem_cons.mpr ⟨lw_p88, List.forall_mem_cons.mpr ⟨lw_p89, List.forall_mem_cons.mpr ⟨lw_p90, List.forall_mem_cons.mpr ⟨lw_p91, List.forall_mem_cons.mpr ⟨lw_p92, List.forall_mem_cons.mpr ⟨lw_p93, List.forall_mem_cons.mpr ⟨lw_p94, List.forall_mem_cons.mpr ⟨lw_p95, fun _ h => absurd h List.not_mem_nil⟩⟩⟩⟩⟩⟩⟩⟩⟩⟩⟩⟩⟩⟩⟩⟩
def lw_privs : List (MethodName × Nat) := lw_privs_1 ++ (lw_privs_2 ++ (lw_privs_3 ++ (lw_privs_4 ++ (lw_privs_5 ++ (lw_privs_6)))))
def lw_tbl : List Cond := k2_sels lw_privs ++ tables_1
theorem lw_privs_ok : ∀ q ∈ lw_privs, lw_okq q := by
  show ∀ q ∈ lw_privs_1 ++ (lw_privs_2 ++ (lw_privs_3 ++ (lw_privs_4 ++ (lw_privs_5 ++ (lw_privs_6))))), lw_okq q
  exact List.forall_mem_append.mpr ⟨lw_r1, List.forall_mem_append.mpr ⟨lw_r2, List.forall_mem_append.mpr ⟨lw_r3, List.forall_mem_append.mpr ⟨lw_r4, List.forall_mem_append.mpr ⟨lw_r5, lw_r6⟩⟩⟩⟩⟩
def fx_TB : List Cond := lw_tbl.filter goodWord
theorem fx_mem {w : Cond} (i : Nat) (h : lw_tbl[i]? = some w) (g : goodWord w = true) : w ∈ fx_TB := List.mem_filter.mpr ⟨List.mem_of_getElem? h, g⟩
theorem fx_good {w : Cond} (h : w ∈ fx_TB) : (w.onTables && w.keeps) = true ∨ ∃ ty, w = .arrayClass ty := good_of_word (List.mem_filter.mp h).2
theorem fx_in {w : Cond} (h : w ∈ fx_TB) : w ∈ lw_tbl := (List.mem_filter.mp h).1
end
section
def RX0 : String := "FearLocks$City"
def TX0 : u_T := fun k => match k with
  | 0 => ("FearLocks$City", "dread", "[[I", true)
  | 1 => ("FearLocks$City", "knows", "[I", true)
  | 2 => ("FearLocks$City", "doorFear", "[I", true)
  | 3 => ("FearLocks$City", "strength", "[I", true)
  | 4 => ("FearLocks$City", "opened", "[I", true)
  | 5 => ("FearLocks$City", "people", "I", false)
  | 6 => ("FearLocks$City", "doors", "I", false)
  | 7 => ("FearLocks$City", "night", "I", false)
  | _ => ("FearLocks$City", "x", "I", false)
def tyX0 : Nat → FieldType := fun k => match k with
  | 0 => .array (.array .int)
  | 1 => .array .int
  | 2 => .array .int
  | 3 => .array .int
  | 4 => .array .int
  | 5 => .int
  | 6 => .int
  | 7 => .int
  | _ => .int
theorem nmX0 : ∀ a, a < 9 → ∀ b, b < 9 → a ≠ b → (TX0 a).2.1 ≠ (TX0 b).2.1 := by decide +kernel
theorem tyX0_ok : ∀ k, k < 9 → parseFieldDescriptor (TX0 k).2.2.1 = some (tyX0 k) := by decide +kernel
abbrev cX0_init : ByteArray := prog_2_method_1_code
def yX0_init : MethodName := ⟨RX0, "<init>", "()V"⟩
abbrev cX0_isPerson : ByteArray := prog_2_method_2_code
def yX0_isPerson : MethodName := ⟨RX0, "isPerson", "(I)Z"⟩
abbrev cX0_isDoor : ByteArray := prog_2_method_3_code
def yX0_isDoor : MethodName := ⟨RX0, "isDoor", "(I)Z"⟩
abbrev cX0_dreadOf : ByteArray := prog_2_method_4_code
def yX0_dreadOf : MethodName := ⟨RX0, "dreadOf", "(II)I"⟩
abbrev cX0_setDread : ByteArray := prog_2_method_5_code
def yX0_setDread : MethodName := ⟨RX0, "setDread", "(III)V"⟩
abbrev cX0_greatestDread : ByteArray := prog_2_method_6_code
def yX0_greatestDread : MethodName := ⟨RX0, "greatestDread", "(I)I"⟩
abbrev cX0_dreadInAll : ByteArray := prog_2_method_7_code
def yX0_dreadInAll : MethodName := ⟨RX0, "dreadInAll", "(I)I"⟩
abbrev cX0_fearOf : ByteArray := prog_2_method_8_code
def yX0_fearOf : MethodName := ⟨RX0, "fearOf", "(I)I"⟩
abbrev cX0_havingFear : ByteArray := prog_2_method_9_code
def yX0_havingFear : MethodName := ⟨RX0, "havingFear", "(I)I"⟩
abbrev cX0_nobodysFears : ByteArray := prog_2_method_10_code
def yX0_nobodysFears : MethodName := ⟨RX0, "nobodysFears", "()I"⟩
abbrev cX0_allsFears : ByteArray := prog_2_method_11_code
def yX0_allsFears : MethodName := ⟨RX0, "allsFears", "()I"⟩
abbrev cX0_fearsFrom : ByteArray := prog_2_method_12_code
def yX0_fearsFrom : MethodName := ⟨RX0, "fearsFrom", "(II)I"⟩
abbrev cX0_knownTo : ByteArray := prog_2_method_13_code
def yX0_knownTo : MethodName := ⟨RX0, "knownTo", "(I)I"⟩
abbrev cX0_acquaint : ByteArray := prog_2_method_14_code
def yX0_acquaint : MethodName := ⟨RX0, "acquaint", "(IIZ)V"⟩
abbrev cX0_acquaintances : ByteArray := prog_2_method_15_code
def yX0_acquaintances : MethodName := ⟨RX0, "acquaintances", "()I"⟩
abbrev cX0_tellDoor : ByteArray := prog_2_method_16_code
def yX0_tellDoor : MethodName := ⟨RX0, "tellDoor", "(III)V"⟩
abbrev cX0_dropDoor : ByteArray := prog_2_method_17_code
def yX0_dropDoor : MethodName := ⟨RX0, "dropDoor", "(I)V"⟩
abbrev cX0_opens : ByteArray := prog_2_method_18_code
def yX0_opens : MethodName := ⟨RX0, "opens", "(II)Z"⟩
abbrev cX0_doorsOpenTo : ByteArray := prog_2_method_19_code
def yX0_doorsOpenTo : MethodName := ⟨RX0, "doorsOpenTo", "(I)I"⟩
abbrev cX0_openersOf : ByteArray := prog_2_method_20_code
def yX0_openersOf : MethodName := ⟨RX0, "openersOf", "(I)I"⟩
abbrev cX0_openedOf : ByteArray := prog_2_method_21_code
def yX0_openedOf : MethodName := ⟨RX0, "openedOf", "(I)I"⟩
abbrev cX0_openedInAll : ByteArray := prog_2_method_22_code
def yX0_openedInAll : MethodName := ⟨RX0, "openedInAll", "()I"⟩
abbrev cX0_draw : ByteArray := prog_2_method_23_code
def yX0_draw : MethodName := ⟨RX0, "draw", "()I"⟩
abbrev cX0_copyFrom : ByteArray := prog_2_method_24_code
def yX0_copyFrom : MethodName := ⟨RX0, "copyFrom", "(LFearLocks$City;)V"⟩
abbrev cX0_copyDreads : ByteArray := prog_2_method_25_code
def yX0_copyDreads : MethodName := ⟨RX0, "copyDreads", "(LFearLocks$City;)V"⟩
abbrev cX0_goBackTo : ByteArray := prog_2_method_26_code
def yX0_goBackTo : MethodName := ⟨RX0, "goBackTo", "(LFearLocks$City;)V"⟩
def RX1 : String := "FearLocks$Company"
def TX1 : u_T := fun k => match k with
  | 0 => ("FearLocks$Company", "links", "[I", true)
  | _ => ("FearLocks$Company", "couplesIn", "[I", true)
def tyX1 : Nat → FieldType := fun k => match k with
  | 0 => .array .int
  | _ => .array .int
theorem nmX1 : ∀ a, a < 2 → ∀ b, b < 2 → a ≠ b → (TX1 a).2.1 ≠ (TX1 b).2.1 := by decide +kernel
theorem tyX1_ok : ∀ k, k < 2 → parseFieldDescriptor (TX1 k).2.2.1 = some (tyX1 k) := by decide +kernel
abbrev cX1_init : ByteArray := prog_3_method_1_code
def yX1_init : MethodName := ⟨RX1, "<init>", "()V"⟩
abbrev cX1_beside : ByteArray := prog_3_method_2_code
def yX1_beside : MethodName := ⟨RX1, "beside", "([II)I"⟩
abbrev cX1_reached : ByteArray := prog_3_method_3_code
def yX1_reached : MethodName := ⟨RX1, "reached", "([III)I"⟩
abbrev cX1_holdersTogether : ByteArray := prog_3_method_4_code
def yX1_holdersTogether : MethodName := ⟨RX1, "holdersTogether", "(LFearLocks$City;)I"⟩
abbrev cX1_stepsBetween : ByteArray := prog_3_method_5_code
def yX1_stepsBetween : MethodName := ⟨RX1, "stepsBetween", "(LFearLocks$City;II)I"⟩
abbrev cX1_grownFashion : ByteArray := prog_3_method_6_code
def yX1_grownFashion : MethodName := ⟨RX1, "grownFashion", "(LFearLocks$City;II)I"⟩
abbrev cX1_difference : ByteArray := prog_3_method_7_code
def yX1_difference : MethodName := ⟨RX1, "difference", "(LFearLocks$City;II)I"⟩
abbrev cX1_nearestTo : ByteArray := prog_3_method_8_code
def yX1_nearestTo : MethodName := ⟨RX1, "nearestTo", "(LFearLocks$City;I)I"⟩
abbrev cX1_linkAlike : ByteArray := prog_3_method_9_code
def yX1_linkAlike : MethodName := ⟨RX1, "linkAlike", "(LFearLocks$City;I)V"⟩
abbrev cX1_circleOf : ByteArray := prog_3_method_10_code
def yX1_circleOf : MethodName := ⟨RX1, "circleOf", "(II)I"⟩
abbrev cX1_circlesOf : ByteArray := prog_3_method_11_code
def yX1_circlesOf : MethodName := ⟨RX1, "circlesOf", "(I)I"⟩
abbrev cX1_mostCouples : ByteArray := prog_3_method_12_code
def yX1_mostCouples : MethodName := ⟨RX1, "mostCouples", "(LFearLocks$City;I)I"⟩
abbrev cX1_linkFellows : ByteArray := prog_3_method_13_code
def yX1_linkFellows : MethodName := ⟨RX1, "linkFellows", "(LFearLocks$City;I)V"⟩
abbrev cX1_mostWith : ByteArray := prog_3_method_14_code
def yX1_mostWith : MethodName := ⟨RX1, "mostWith", "(II)I"⟩
def RX2 : String := "FearLocks$DreadsReader"
def TX2 : u_T := fun k => match k with
  | 0 => ("FearLocks$LinesReader", "text", "LFearLocks$Tape;", true)
  | 1 => ("FearLocks$DreadsReader", "city", "LFearLocks$City;", true)
  | _ => ("FearLocks$DreadsReader", "person", "I", true)
def tyX2 : Nat → FieldType := fun k => match k with
  | 0 => .object "FearLocks$Tape"
  | 1 => .object "FearLocks$City"
  | _ => .int
theorem nmX2 : ∀ a, a < 3 → ∀ b, b < 3 → a ≠ b → (TX2 a).2.1 ≠ (TX2 b).2.1 := by decide +kernel
theorem tyX2_ok : ∀ k, k < 3 → parseFieldDescriptor (TX2 k).2.2.1 = some (tyX2 k) := by decide +kernel
abbrev cX2_init : ByteArray := prog_4_method_1_code
def yX2_init : MethodName := ⟨RX2, "<init>", "(LFearLocks$Tape;LFearLocks$City;I)V"⟩
abbrev cX2_startsLine : ByteArray := prog_4_method_2_code
def yX2_startsLine : MethodName := ⟨RX2, "startsLine", "(I)Z"⟩
abbrev cX2_readLine : ByteArray := prog_4_method_3_code
def yX2_readLine : MethodName := ⟨RX2, "readLine", "()Z"⟩
abbrev cX2_readFears : ByteArray := prog_4_method_4_code
def yX2_readFears : MethodName := ⟨RX2, "readFears", "()I"⟩
abbrev cX2_change : ByteArray := prog_4_method_5_code
def yX2_change : MethodName := ⟨RX2, "change", "(III)V"⟩
def RX3 : String := "FearLocks$Keys"
def TX3 : u_T := fun k => match k with
  | _ => ("FearLocks$Keys", "opens", "[I", true)
def tyX3 : Nat → FieldType := fun k => match k with
  | _ => .array .int
theorem nmX3 : ∀ a, a < 1 → ∀ b, b < 1 → a ≠ b → (TX3 a).2.1 ≠ (TX3 b).2.1 := by decide +kernel
theorem tyX3_ok : ∀ k, k < 1 → parseFieldDescriptor (TX3 k).2.2.1 = some (tyX3 k) := by decide +kernel
abbrev cX3_init : ByteArray := prog_5_method_1_code
def yX3_init : MethodName := ⟨RX3, "<init>", "()V"⟩
abbrev cX3_lessons : ByteArray := prog_5_method_2_code
def yX3_lessons : MethodName := ⟨RX3, "lessons", "(LFearLocks$City;II)I"⟩
abbrev cX3_fewestForAllDoors : ByteArray := prog_5_method_3_code
def yX3_fewestForAllDoors : MethodName := ⟨RX3, "fewestForAllDoors", "(LFearLocks$City;)I"⟩
abbrev cX3_openedBy : ByteArray := prog_5_method_4_code
def yX3_openedBy : MethodName := ⟨RX3, "openedBy", "(I)I"⟩
abbrev cX3_mostLet : ByteArray := prog_5_method_5_code
def yX3_mostLet : MethodName := ⟨RX3, "mostLet", "(LFearLocks$City;)I"⟩
abbrev cX3_triesFit : ByteArray := prog_5_method_6_code
def yX3_triesFit : MethodName := ⟨RX3, "triesFit", "(LFearLocks$Tape;LFearLocks$City;I)Z"⟩
abbrev cX3_possibleFears : ByteArray := prog_5_method_7_code
def yX3_possibleFears : MethodName := ⟨RX3, "possibleFears", "(LFearLocks$Tape;LFearLocks$City;I)I"⟩
abbrev cX3_leastStrength : ByteArray := prog_5_method_8_code
def yX3_leastStrength : MethodName := ⟨RX3, "leastStrength", "(LFearLocks$Tape;LFearLocks$City;II)I"⟩
abbrev cX3_greatestStrength : ByteArray := prog_5_method_9_code
def yX3_greatestStrength : MethodName := ⟨RX3, "greatestStrength", "(LFearLocks$Tape;LFearLocks$City;II)I"⟩
abbrev cX3_bestToSend : ByteArray := prog_5_method_10_code
def yX3_bestToSend : MethodName := ⟨RX3, "bestToSend", "(LFearLocks$City;I)I"⟩
abbrev cX3_leftAtWorst : ByteArray := prog_5_method_11_code
def yX3_leftAtWorst : MethodName := ⟨RX3, "leftAtWorst", "(LFearLocks$City;II)I"⟩
def RX4 : String := "FearLocks$Law"
def TX4 : u_T := fun k => match k with
  | 0 => ("FearLocks$Law", "step", "[I", true)
  | 1 => ("FearLocks$Law", "detail", "[I", true)
  | 2 => ("FearLocks$Law", "steps", "I", false)
  | 3 => ("FearLocks$Law", "kind", "[I", true)
  | 4 => ("FearLocks$Law", "worthFrom", "[I", true)
  | 5 => ("FearLocks$Law", "conditionFrom", "[I", true)
  | 6 => ("FearLocks$Law", "rules", "I", false)
  | 7 => ("FearLocks$Law", "meaning", "[I", true)
  | 8 => ("FearLocks$Law", "stack", "[I", true)
  | _ => ("FearLocks$Law", "high", "I", false)
def tyX4 : Nat → FieldType := fun k => match k with
  | 0 => .array .int
  | 1 => .array .int
  | 2 => .int
  | 3 => .array .int
  | 4 => .array .int
  | 5 => .array .int
  | 6 => .int
  | 7 => .array .int
  | 8 => .array .int
  | _ => .int
theorem nmX4 : ∀ a, a < 10 → ∀ b, b < 10 → a ≠ b → (TX4 a).2.1 ≠ (TX4 b).2.1 := by decide +kernel
theorem tyX4_ok : ∀ k, k < 10 → parseFieldDescriptor (TX4 k).2.2.1 = some (tyX4 k) := by decide +kernel
abbrev cX4_init : ByteArray := prog_6_method_1_code
def yX4_init : MethodName := ⟨RX4, "<init>", "()V"⟩
abbrev cX4_clear : ByteArray := prog_6_method_2_code
def yX4_clear : MethodName := ⟨RX4, "clear", "()V"⟩
abbrev cX4_startRule : ByteArray := prog_6_method_3_code
def yX4_startRule : MethodName := ⟨RX4, "startRule", "(I)V"⟩
abbrev cX4_startCondition : ByteArray := prog_6_method_4_code
def yX4_startCondition : MethodName := ⟨RX4, "startCondition", "()V"⟩
abbrev cX4_endRule : ByteArray := prog_6_method_5_code
def yX4_endRule : MethodName := ⟨RX4, "endRule", "()V"⟩
abbrev cX4_add : ByteArray := prog_6_method_6_code
def yX4_add : MethodName := ⟨RX4, "add", "(II)I"⟩
abbrev cX4_leadHere : ByteArray := prog_6_method_7_code
def yX4_leadHere : MethodName := ⟨RX4, "leadHere", "(I)V"⟩
abbrev cX4_meanPerson : ByteArray := prog_6_method_8_code
def yX4_meanPerson : MethodName := ⟨RX4, "meanPerson", "(III)V"⟩
abbrev cX4_meanOther : ByteArray := prog_6_method_9_code
def yX4_meanOther : MethodName := ⟨RX4, "meanOther", "(III)V"⟩
abbrev cX4_meanDoor : ByteArray := prog_6_method_10_code
def yX4_meanDoor : MethodName := ⟨RX4, "meanDoor", "(II)V"⟩
abbrev cX4_meanTime : ByteArray := prog_6_method_11_code
def yX4_meanTime : MethodName := ⟨RX4, "meanTime", "(II)V"⟩
abbrev cX4_anyHolds : ByteArray := prog_6_method_12_code
def yX4_anyHolds : MethodName := ⟨RX4, "anyHolds", "(I)Z"⟩
abbrev cX4_worth : ByteArray := prog_6_method_13_code
def yX4_worth : MethodName := ⟨RX4, "worth", "(II)I"⟩
abbrev cX4_reckon : ByteArray := prog_6_method_14_code
def yX4_reckon : MethodName := ⟨RX4, "reckon", "(I)I"⟩
abbrev cX4_joined : ByteArray := prog_6_method_15_code
def yX4_joined : MethodName := ⟨RX4, "joined", "(III)I"⟩
abbrev cX4_meaningOf : ByteArray := prog_6_method_16_code
def yX4_meaningOf : MethodName := ⟨RX4, "meaningOf", "(I)I"⟩
abbrev cX4_push : ByteArray := prog_6_method_17_code
def yX4_push : MethodName := ⟨RX4, "push", "(I)V"⟩
abbrev cX4_pop : ByteArray := prog_6_method_18_code
def yX4_pop : MethodName := ⟨RX4, "pop", "()I"⟩
def RX5 : String := "FearLocks$LawReader"
def TX5 : u_T := fun k => match k with
  | 0 => ("FearLocks$LinesReader", "text", "LFearLocks$Tape;", true)
  | _ => ("FearLocks$LawReader", "law", "LFearLocks$Law;", true)
def tyX5 : Nat → FieldType := fun k => match k with
  | 0 => .object "FearLocks$Tape"
  | _ => .object "FearLocks$Law"
theorem nmX5 : ∀ a, a < 2 → ∀ b, b < 2 → a ≠ b → (TX5 a).2.1 ≠ (TX5 b).2.1 := by decide +kernel
theorem tyX5_ok : ∀ k, k < 2 → parseFieldDescriptor (TX5 k).2.2.1 = some (tyX5 k) := by decide +kernel
abbrev cX5_init : ByteArray := prog_7_method_1_code
def yX5_init : MethodName := ⟨RX5, "<init>", "(LFearLocks$Tape;LFearLocks$Law;)V"⟩
abbrev cX5_startsLine : ByteArray := prog_7_method_2_code
def yX5_startsLine : MethodName := ⟨RX5, "startsLine", "(I)Z"⟩
abbrev cX5_readLine : ByteArray := prog_7_method_3_code
def yX5_readLine : MethodName := ⟨RX5, "readLine", "()Z"⟩
abbrev cX5_readAnyOf : ByteArray := prog_7_method_4_code
def yX5_readAnyOf : MethodName := ⟨RX5, "readAnyOf", "(I)Z"⟩
abbrev cX5_readAllOf : ByteArray := prog_7_method_5_code
def yX5_readAllOf : MethodName := ⟨RX5, "readAllOf", "(I)Z"⟩
abbrev cX5_readTest : ByteArray := prog_7_method_6_code
def yX5_readTest : MethodName := ⟨RX5, "readTest", "(I)Z"⟩
abbrev cX5_readNegation : ByteArray := prog_7_method_7_code
def yX5_readNegation : MethodName := ⟨RX5, "readNegation", "(I)Z"⟩
abbrev cX5_open : ByteArray := prog_7_method_8_code
def yX5_open : MethodName := ⟨RX5, "open", "(I)Z"⟩
abbrev cX5_readComparison : ByteArray := prog_7_method_9_code
def yX5_readComparison : MethodName := ⟨RX5, "readComparison", "(I)Z"⟩
abbrev cX5_readSum : ByteArray := prog_7_method_10_code
def yX5_readSum : MethodName := ⟨RX5, "readSum", "(I)Z"⟩
abbrev cX5_readProduct : ByteArray := prog_7_method_11_code
def yX5_readProduct : MethodName := ⟨RX5, "readProduct", "(I)Z"⟩
abbrev cX5_joinsFactors : ByteArray := prog_7_method_12_code
def yX5_joinsFactors : MethodName := ⟨RX5, "joinsFactors", "(I)Z"⟩
abbrev cX5_readFactor : ByteArray := prog_7_method_13_code
def yX5_readFactor : MethodName := ⟨RX5, "readFactor", "(I)Z"⟩
def RX6 : String := "FearLocks$LinesReader"
def TX6 : u_T := fun k => match k with
  | _ => ("", "", "", false)
def tyX6 : Nat → FieldType := fun k => match k with
  | _ => .int
theorem nmX6 : ∀ a, a < 0 → ∀ b, b < 0 → a ≠ b → (TX6 a).2.1 ≠ (TX6 b).2.1 := by decide +kernel
theorem tyX6_ok : ∀ k, k < 0 → parseFieldDescriptor (TX6 k).2.2.1 = some (tyX6 k) := by decide +kernel
abbrev cX6_init : ByteArray := prog_8_method_1_code
def yX6_init : MethodName := ⟨RX6, "<init>", "(LFearLocks$Tape;)V"⟩
abbrev cX6_readLines : ByteArray := prog_8_method_4_code
def yX6_readLines : MethodName := ⟨RX6, "readLines", "(I)I"⟩
def RX7 : String := "FearLocks$Nightfall"
def TX7 : u_T := fun k => match k with
  | 0 => ("FearLocks$Nightfall", "behindDoors", "LFearLocks$City;", true)
  | 1 => ("FearLocks$Nightfall", "openings", "I", false)
  | _ => ("FearLocks$Nightfall", "failures", "I", false)
def tyX7 : Nat → FieldType := fun k => match k with
  | 0 => .object "FearLocks$City"
  | 1 => .int
  | _ => .int
theorem nmX7 : ∀ a, a < 3 → ∀ b, b < 3 → a ≠ b → (TX7 a).2.1 ≠ (TX7 b).2.1 := by decide +kernel
theorem tyX7_ok : ∀ k, k < 3 → parseFieldDescriptor (TX7 k).2.2.1 = some (tyX7 k) := by decide +kernel
abbrev cX7_init : ByteArray := prog_9_method_1_code
def yX7_init : MethodName := ⟨RX7, "<init>", "()V"⟩
abbrev cX7_pass : ByteArray := prog_9_method_2_code
def yX7_pass : MethodName := ⟨RX7, "pass", "(LFearLocks$City;LFearLocks$Law;I)V"⟩
abbrev cX7_goOut : ByteArray := prog_9_method_3_code
def yX7_goOut : MethodName := ⟨RX7, "goOut", "(LFearLocks$City;LFearLocks$Law;I)V"⟩
abbrev cX7_doorTried : ByteArray := prog_9_method_4_code
def yX7_doorTried : MethodName := ⟨RX7, "doorTried", "(LFearLocks$City;LFearLocks$Law;I)I"⟩
abbrev cX7_meanDoorFor : ByteArray := prog_9_method_5_code
def yX7_meanDoorFor : MethodName := ⟨RX7, "meanDoorFor", "(LFearLocks$City;LFearLocks$Law;II)V"⟩
abbrev cX7_tryDoor : ByteArray := prog_9_method_6_code
def yX7_tryDoor : MethodName := ⟨RX7, "tryDoor", "(LFearLocks$City;LFearLocks$Law;II)V"⟩
abbrev cX7_spreadDread : ByteArray := prog_9_method_7_code
def yX7_spreadDread : MethodName := ⟨RX7, "spreadDread", "(LFearLocks$City;LFearLocks$Law;)V"⟩
abbrev cX7_catchDread : ByteArray := prog_9_method_8_code
def yX7_catchDread : MethodName := ⟨RX7, "catchDread", "(LFearLocks$City;LFearLocks$Law;II)V"⟩
def RX8 : String := "FearLocks$OrdersReader"
def TX8 : u_T := fun k => match k with
  | 0 => ("FearLocks$LinesReader", "text", "LFearLocks$Tape;", true)
  | _ => ("FearLocks$OrdersReader", "city", "LFearLocks$City;", true)
def tyX8 : Nat → FieldType := fun k => match k with
  | 0 => .object "FearLocks$Tape"
  | _ => .object "FearLocks$City"
theorem nmX8 : ∀ a, a < 2 → ∀ b, b < 2 → a ≠ b → (TX8 a).2.1 ≠ (TX8 b).2.1 := by decide +kernel
theorem tyX8_ok : ∀ k, k < 2 → parseFieldDescriptor (TX8 k).2.2.1 = some (tyX8 k) := by decide +kernel
abbrev cX8_init : ByteArray := prog_10_method_1_code
def yX8_init : MethodName := ⟨RX8, "<init>", "(LFearLocks$Tape;LFearLocks$City;)V"⟩
abbrev cX8_startsLine : ByteArray := prog_10_method_2_code
def yX8_startsLine : MethodName := ⟨RX8, "startsLine", "(I)Z"⟩
abbrev cX8_readLine : ByteArray := prog_10_method_3_code
def yX8_readLine : MethodName := ⟨RX8, "readLine", "()Z"⟩
abbrev cX8_readAcquaintance : ByteArray := prog_10_method_4_code
def yX8_readAcquaintance : MethodName := ⟨RX8, "readAcquaintance", "()Z"⟩
abbrev cX8_readPerson : ByteArray := prog_10_method_5_code
def yX8_readPerson : MethodName := ⟨RX8, "readPerson", "()I"⟩
abbrev cX8_readDoor : ByteArray := prog_10_method_6_code
def yX8_readDoor : MethodName := ⟨RX8, "readDoor", "()Z"⟩
abbrev cX8_readLock : ByteArray := prog_10_method_7_code
def yX8_readLock : MethodName := ⟨RX8, "readLock", "(I)Z"⟩
def RX9 : String := "FearLocks$Pastimes"
def TX9 : u_T := fun k => match k with
  | 0 => ("FearLocks$Pastimes", "guardFear", "[I", true)
  | _ => ("FearLocks$Pastimes", "words", "[J", true)
def tyX9 : Nat → FieldType := fun k => match k with
  | 0 => .array .int
  | _ => .array .long
theorem nmX9 : ∀ a, a < 2 → ∀ b, b < 2 → a ≠ b → (TX9 a).2.1 ≠ (TX9 b).2.1 := by decide +kernel
theorem tyX9_ok : ∀ k, k < 2 → parseFieldDescriptor (TX9 k).2.2.1 = some (tyX9 k) := by decide +kernel
abbrev cX9_init : ByteArray := prog_11_method_1_code
def yX9_init : MethodName := ⟨RX9, "<init>", "()V"⟩
abbrev cX9_waysToStand : ByteArray := prog_11_method_2_code
def yX9_waysToStand : MethodName := ⟨RX9, "waysToStand", "(LFearLocks$Tape;LFearLocks$City;I)I"⟩
abbrev cX9_waysOn : ByteArray := prog_11_method_3_code
def yX9_waysOn : MethodName := ⟨RX9, "waysOn", "([IIIII)I"⟩
abbrev cX9_canStandTogether : ByteArray := prog_11_method_4_code
def yX9_canStandTogether : MethodName := ⟨RX9, "canStandTogether", "([III)Z"⟩
abbrev cX9_wordsWeighing : ByteArray := prog_11_method_5_code
def yX9_wordsWeighing : MethodName := ⟨RX9, "wordsWeighing", "(III)J"⟩
abbrev cX9_wordsWithOneMore : ByteArray := prog_11_method_6_code
def yX9_wordsWithOneMore : MethodName := ⟨RX9, "wordsWithOneMore", "(II)J"⟩
abbrev cX9_leastDreadBehindRooms : ByteArray := prog_11_method_7_code
def yX9_leastDreadBehindRooms : MethodName := ⟨RX9, "leastDreadBehindRooms", "(LFearLocks$Tape;II)I"⟩
abbrev cX9_roomsOfCommonest : ByteArray := prog_11_method_8_code
def yX9_roomsOfCommonest : MethodName := ⟨RX9, "roomsOfCommonest", "(LFearLocks$Tape;I)I"⟩
def RX10 : String := "FearLocks$Tape"
def TX10 : u_T := fun k => match k with
  | 0 => ("FearLocks$Tape", "bytes", "[I", true)
  | 1 => ("FearLocks$Tape", "size", "I", false)
  | 2 => ("FearLocks$Tape", "end", "I", false)
  | 3 => ("FearLocks$Tape", "at", "I", false)
  | _ => ("FearLocks$Tape", "fault", "I", false)
def tyX10 : Nat → FieldType := fun k => match k with
  | 0 => .array .int
  | 1 => .int
  | 2 => .int
  | 3 => .int
  | _ => .int
theorem nmX10 : ∀ a, a < 5 → ∀ b, b < 5 → a ≠ b → (TX10 a).2.1 ≠ (TX10 b).2.1 := by decide +kernel
theorem tyX10_ok : ∀ k, k < 5 → parseFieldDescriptor (TX10 k).2.2.1 = some (tyX10 k) := by decide +kernel
abbrev cX10_init : ByteArray := prog_12_method_1_code
def yX10_init : MethodName := ⟨RX10, "<init>", "()V"⟩
abbrev cX10_append : ByteArray := prog_12_method_2_code
def yX10_append : MethodName := ⟨RX10, "append", "(I)V"⟩
abbrev cX10_holds : ByteArray := prog_12_method_3_code
def yX10_holds : MethodName := ⟨RX10, "holds", "(III)Z"⟩
abbrev cX10_take : ByteArray := prog_12_method_4_code
def yX10_take : MethodName := ⟨RX10, "take", "(I)V"⟩
abbrev cX10_byteAt : ByteArray := prog_12_method_5_code
def yX10_byteAt : MethodName := ⟨RX10, "byteAt", "(I)I"⟩
abbrev cX10_now : ByteArray := prog_12_method_6_code
def yX10_now : MethodName := ⟨RX10, "now", "()I"⟩
abbrev cX10_fail : ByteArray := prog_12_method_7_code
def yX10_fail : MethodName := ⟨RX10, "fail", "(II)Z"⟩
abbrev cX10_cannotStand : ByteArray := prog_12_method_8_code
def yX10_cannotStand : MethodName := ⟨RX10, "cannotStand", "()Z"⟩
abbrev cX10_expect : ByteArray := prog_12_method_9_code
def yX10_expect : MethodName := ⟨RX10, "expect", "(I)Z"⟩
abbrev cX10_readNumber : ByteArray := prog_12_method_10_code
def yX10_readNumber : MethodName := ⟨RX10, "readNumber", "(I)I"⟩
abbrev cX10_isDigit : ByteArray := prog_12_method_11_code
def yX10_isDigit : MethodName := ⟨RX10, "isDigit", "(I)Z"⟩
abbrev cX10_isFear : ByteArray := prog_12_method_12_code
def yX10_isFear : MethodName := ⟨RX10, "isFear", "(I)Z"⟩
def RX11 : String := "FearLocks"
def TX11 : u_T := fun k => match k with
  | 0 => ("FearLocks", "tape", "LFearLocks$Tape;", true)
  | 1 => ("FearLocks", "city", "LFearLocks$City;", true)
  | 2 => ("FearLocks", "draft", "LFearLocks$City;", true)
  | 3 => ("FearLocks", "kept", "LFearLocks$City;", true)
  | 4 => ("FearLocks", "everKept", "Z", false)
  | 5 => ("FearLocks", "inForce", "LFearLocks$Law;", false)
  | 6 => ("FearLocks", "spare", "LFearLocks$Law;", false)
  | 7 => ("FearLocks", "nightfall", "LFearLocks$Nightfall;", true)
  | 8 => ("FearLocks", "keys", "LFearLocks$Keys;", true)
  | 9 => ("FearLocks", "company", "LFearLocks$Company;", true)
  | _ => ("FearLocks", "pastimes", "LFearLocks$Pastimes;", true)
def tyX11 : Nat → FieldType := fun k => match k with
  | 0 => .object "FearLocks$Tape"
  | 1 => .object "FearLocks$City"
  | 2 => .object "FearLocks$City"
  | 3 => .object "FearLocks$City"
  | 4 => .boolean
  | 5 => .object "FearLocks$Law"
  | 6 => .object "FearLocks$Law"
  | 7 => .object "FearLocks$Nightfall"
  | 8 => .object "FearLocks$Keys"
  | 9 => .object "FearLocks$Company"
  | _ => .object "FearLocks$Pastimes"
theorem nmX11 : ∀ a, a < 11 → ∀ b, b < 11 → a ≠ b → (TX11 a).2.1 ≠ (TX11 b).2.1 := by decide +kernel
theorem tyX11_ok : ∀ k, k < 11 → parseFieldDescriptor (TX11 k).2.2.1 = some (tyX11 k) := by decide +kernel
abbrev cX11_init : ByteArray := prog_1_method_1_code
def yX11_init : MethodName := ⟨RX11, "<init>", "()V"⟩
abbrev cX11_feed : ByteArray := prog_1_method_2_code
def yX11_feed : MethodName := ⟨RX11, "feed", "(IIIII)I"⟩
abbrev cX11_law : ByteArray := prog_1_method_3_code
def yX11_law : MethodName := ⟨RX11, "law", "(I)I"⟩
abbrev cX11_dreads : ByteArray := prog_1_method_4_code
def yX11_dreads : MethodName := ⟨RX11, "dreads", "(II)I"⟩
abbrev cX11_orders : ByteArray := prog_1_method_5_code
def yX11_orders : MethodName := ⟨RX11, "orders", "(I)I"⟩
abbrev cX11_nights : ByteArray := prog_1_method_6_code
def yX11_nights : MethodName := ⟨RX11, "nights", "(I)I"⟩
abbrev cX11_tried : ByteArray := prog_1_method_7_code
def yX11_tried : MethodName := ⟨RX11, "tried", "(II)I"⟩
abbrev cX11_canBeTried : ByteArray := prog_1_method_8_code
def yX11_canBeTried : MethodName := ⟨RX11, "canBeTried", "(I)Z"⟩
abbrev cX11_personIs : ByteArray := prog_1_method_9_code
def yX11_personIs : MethodName := ⟨RX11, "personIs", "(II)I"⟩
abbrev cX11_doorIs : ByteArray := prog_1_method_10_code
def yX11_doorIs : MethodName := ⟨RX11, "doorIs", "(II)I"⟩
abbrev cX11_taught : ByteArray := prog_1_method_11_code
def yX11_taught : MethodName := ⟨RX11, "taught", "(II)I"⟩
abbrev cX11_crew : ByteArray := prog_1_method_12_code
def yX11_crew : MethodName := ⟨RX11, "crew", "(I)I"⟩
abbrev cX11_lodgings : ByteArray := prog_1_method_13_code
def yX11_lodgings : MethodName := ⟨RX11, "lodgings", "()I"⟩
abbrev cX11_couples : ByteArray := prog_1_method_14_code
def yX11_couples : MethodName := ⟨RX11, "couples", "(I)I"⟩
abbrev cX11_fashion : ByteArray := prog_1_method_15_code
def yX11_fashion : MethodName := ⟨RX11, "fashion", "(III)I"⟩
abbrev cX11_fears : ByteArray := prog_1_method_16_code
def yX11_fears : MethodName := ⟨RX11, "fears", "(I)I"⟩
abbrev cX11_unlike : ByteArray := prog_1_method_17_code
def yX11_unlike : MethodName := ⟨RX11, "unlike", "(II)I"⟩
abbrev cX11_mostLike : ByteArray := prog_1_method_18_code
def yX11_mostLike : MethodName := ⟨RX11, "mostLike", "(I)I"⟩
abbrev cX11_circles : ByteArray := prog_1_method_19_code
def yX11_circles : MethodName := ⟨RX11, "circles", "(II)I"⟩
abbrev cX11_keystones : ByteArray := prog_1_method_20_code
def yX11_keystones : MethodName := ⟨RX11, "keystones", "()I"⟩
abbrev cX11_steps : ByteArray := prog_1_method_21_code
def yX11_steps : MethodName := ⟨RX11, "steps", "(II)I"⟩
abbrev cX11_guess : ByteArray := prog_1_method_22_code
def yX11_guess : MethodName := ⟨RX11, "guess", "(II)I"⟩
abbrev cX11_sentNext : ByteArray := prog_1_method_23_code
def yX11_sentNext : MethodName := ⟨RX11, "sentNext", "(II)I"⟩
abbrev cX11_guards : ByteArray := prog_1_method_24_code
def yX11_guards : MethodName := ⟨RX11, "guards", "(I)I"⟩
abbrev cX11_word : ByteArray := prog_1_method_25_code
def yX11_word : MethodName := ⟨RX11, "word", "(III)J"⟩
abbrev cX11_rooms : ByteArray := prog_1_method_26_code
def yX11_rooms : MethodName := ⟨RX11, "rooms", "(II)I"⟩
abbrev cX11_seed : ByteArray := prog_1_method_27_code
def yX11_seed : MethodName := ⟨RX11, "seed", "(I)Z"⟩
abbrev cX11_keep : ByteArray := prog_1_method_28_code
def yX11_keep : MethodName := ⟨RX11, "keep", "()I"⟩
abbrev cX11_undo : ByteArray := prog_1_method_29_code
def yX11_undo : MethodName := ⟨RX11, "undo", "()Z"⟩
abbrev cX11_check : ByteArray := prog_1_method_30_code
def yX11_check : MethodName := ⟨RX11, "check", "(I)I"⟩
abbrev cX11_count : ByteArray := prog_1_method_31_code
def yX11_count : MethodName := ⟨RX11, "count", "(I)I"⟩
abbrev cX11_bounded : ByteArray := prog_1_method_32_code
def yX11_bounded : MethodName := ⟨RX11, "bounded", "(III)I"⟩
abbrev cX11_has : ByteArray := prog_1_method_33_code
def yX11_has : MethodName := ⟨RX11, "has", "(II)Z"⟩
def RX12 : String := "FearLocksModel"
def TX12 : u_T := fun k => match k with
  | 0 => ("FearLocksModel", "now", "[I", true)
  | 1 => ("FearLocksModel", "aside", "[I", true)
  | 2 => ("FearLocksModel", "kept", "[I", true)
  | 3 => ("FearLocksModel", "knownOf", "[I", true)
  | 4 => ("FearLocksModel", "wasKnown", "[I", true)
  | 5 => ("FearLocksModel", "fearAt", "[I", true)
  | 6 => ("FearLocksModel", "strengthAt", "[I", true)
  | 7 => ("FearLocksModel", "wasFear", "[I", true)
  | 8 => ("FearLocksModel", "wasStrength", "[I", true)
  | 9 => ("FearLocksModel", "toldPeople", "I", false)
  | 10 => ("FearLocksModel", "toldDoors", "I", false)
  | 11 => ("FearLocksModel", "wasDoors", "I", false)
  | 12 => ("FearLocksModel", "tape", "[B", true)
  | 13 => ("FearLocksModel", "taped", "I", false)
  | 14 => ("FearLocksModel", "place0", "I", false)
  | 15 => ("FearLocksModel", "length0", "I", false)
  | 16 => ("FearLocksModel", "fault", "I", false)
  | 17 => ("FearLocksModel", "number0", "I", false)
  | 18 => ("FearLocksModel", "open", "I", false)
  | 19 => ("FearLocksModel", "codeMany", "I", false)
  | 20 => ("FearLocksModel", "waiting", "I", false)
  | 21 => ("FearLocksModel", "saidMany", "I", false)
  | 22 => ("FearLocksModel", "clauses", "I", false)
  | 23 => ("FearLocksModel", "said", "[I", true)
  | 24 => ("FearLocksModel", "waitsAt", "[I", true)
  | 25 => ("FearLocksModel", "saidLetter", "[I", true)
  | 26 => ("FearLocksModel", "saidFrom", "[I", true)
  | 27 => ("FearLocksModel", "saidHalf", "[I", true)
  | 28 => ("FearLocksModel", "saidTo", "[I", true)
  | 29 => ("FearLocksModel", "codes", "[I", true)
  | 30 => ("FearLocksModel", "clauseOf", "[I", true)
  | 31 => ("FearLocksModel", "codeFrom", "[I", true)
  | 32 => ("FearLocksModel", "codeHalf", "[I", true)
  | 33 => ("FearLocksModel", "codeTo", "[I", true)
  | 34 => ("FearLocksModel", "stack", "[I", true)
  | 35 => ("FearLocksModel", "facts", "[I", true)
  | 36 => ("FearLocksModel", "lines", "I", false)
  | 37 => ("FearLocksModel", "meantSet", "I", false)
  | 38 => ("FearLocksModel", "openedNow", "I", false)
  | 39 => ("FearLocksModel", "vainNow", "I", false)
  | 40 => ("FearLocksModel", "fearThen", "[I", true)
  | 41 => ("FearLocksModel", "moreBy", "[I", true)
  | 42 => ("FearLocksModel", "canBe", "[Z", true)
  | 43 => ("FearLocksModel", "mostOf", "[I", true)
  | 44 => ("FearLocksModel", "whoOf", "[I", true)
  | 45 => ("FearLocksModel", "lowNow", "I", false)
  | 46 => ("FearLocksModel", "highNow", "I", false)
  | 47 => ("FearLocksModel", "orderNow", "[I", true)
  | 48 => ("FearLocksModel", "wordsOf", "[J", true)
  | 49 => ("FearLocksModel", "wordsThen", "[J", true)
  | 50 => ("FearLocksModel", "leastBy", "[I", true)
  | _ => ("FearLocksModel", "isKept", "Z", false)
def tyX12 : Nat → FieldType := fun k => match k with
  | 0 => .array .int
  | 1 => .array .int
  | 2 => .array .int
  | 3 => .array .int
  | 4 => .array .int
  | 5 => .array .int
  | 6 => .array .int
  | 7 => .array .int
  | 8 => .array .int
  | 9 => .int
  | 10 => .int
  | 11 => .int
  | 12 => .array .byte
  | 13 => .int
  | 14 => .int
  | 15 => .int
  | 16 => .int
  | 17 => .int
  | 18 => .int
  | 19 => .int
  | 20 => .int
  | 21 => .int
  | 22 => .int
  | 23 => .array .int
  | 24 => .array .int
  | 25 => .array .int
  | 26 => .array .int
  | 27 => .array .int
  | 28 => .array .int
  | 29 => .array .int
  | 30 => .array .int
  | 31 => .array .int
  | 32 => .array .int
  | 33 => .array .int
  | 34 => .array .int
  | 35 => .array .int
  | 36 => .int
  | 37 => .int
  | 38 => .int
  | 39 => .int
  | 40 => .array .int
  | 41 => .array .int
  | 42 => .array .boolean
  | 43 => .array .int
  | 44 => .array .int
  | 45 => .int
  | 46 => .int
  | 47 => .array .int
  | 48 => .array .long
  | 49 => .array .long
  | 50 => .array .int
  | _ => .boolean
theorem nmX12 : ∀ a, a < 52 → ∀ b, b < 52 → a ≠ b → (TX12 a).2.1 ≠ (TX12 b).2.1 := by decide +kernel
theorem tyX12_ok : ∀ k, k < 52 → parseFieldDescriptor (TX12 k).2.2.1 = some (tyX12 k) := by decide +kernel
abbrev cX12_init : ByteArray := prog_14_method_1_code
def yX12_init : MethodName := ⟨RX12, "<init>", "()V"⟩
abbrev cX12_in : ByteArray := prog_14_method_2_code
def yX12_in : MethodName := ⟨RX12, "in", "(III)Z"⟩
abbrev cX12_min : ByteArray := prog_14_method_3_code
def yX12_min : MethodName := ⟨RX12, "min", "(II)I"⟩
abbrev cX12_max : ByteArray := prog_14_method_4_code
def yX12_max : MethodName := ⟨RX12, "max", "(II)I"⟩
abbrev cX12_size : ByteArray := prog_14_method_5_code
def yX12_size : MethodName := ⟨RX12, "size", "(I)I"⟩
abbrev cX12_limit : ByteArray := prog_14_method_6_code
def yX12_limit : MethodName := ⟨RX12, "limit", "(I)I"⟩
abbrev cX12_has : ByteArray := prog_14_method_7_code
def yX12_has : MethodName := ⟨RX12, "has", "(II)Z"⟩
abbrev cX12_bits : ByteArray := prog_14_method_8_code
def yX12_bits : MethodName := ⟨RX12, "bits", "(I)I"⟩
abbrev cX12_copies : ByteArray := prog_14_method_9_code
def yX12_copies : MethodName := ⟨RX12, "copies", "([I[I)V"⟩
abbrev cX12_isTold : ByteArray := prog_14_method_10_code
def yX12_isTold : MethodName := ⟨RX12, "isTold", "(I)Z"⟩
abbrev cX12_isDoor : ByteArray := prog_14_method_11_code
def yX12_isDoor : MethodName := ⟨RX12, "isDoor", "(I)Z"⟩
abbrev cX12_dread : ByteArray := prog_14_method_12_code
def yX12_dread : MethodName := ⟨RX12, "dread", "(II)I"⟩
abbrev cX12_greatest : ByteArray := prog_14_method_13_code
def yX12_greatest : MethodName := ⟨RX12, "greatest", "(I)I"⟩
abbrev cX12_fearOf : ByteArray := prog_14_method_14_code
def yX12_fearOf : MethodName := ⟨RX12, "fearOf", "(I)I"⟩
abbrev cX12_unlocks : ByteArray := prog_14_method_15_code
def yX12_unlocks : MethodName := ⟨RX12, "unlocks", "(II)Z"⟩
abbrev cX12_doorsOf : ByteArray := prog_14_method_16_code
def yX12_doorsOf : MethodName := ⟨RX12, "doorsOf", "(I)I"⟩
abbrev cX12_whoUnlocks : ByteArray := prog_14_method_17_code
def yX12_whoUnlocks : MethodName := ⟨RX12, "whoUnlocks", "(I)I"⟩
abbrev cX12_types : ByteArray := prog_14_method_18_code
def yX12_types : MethodName := ⟨RX12, "types", "(I)V"⟩
abbrev cX12_feed : ByteArray := prog_14_method_19_code
def yX12_feed : MethodName := ⟨RX12, "feed", "(IIIII)I"⟩
abbrev cX12_octet : ByteArray := prog_14_method_20_code
def yX12_octet : MethodName := ⟨RX12, "octet", "(I)I"⟩
abbrev cX12_here : ByteArray := prog_14_method_21_code
def yX12_here : MethodName := ⟨RX12, "here", "()I"⟩
abbrev cX12_isDigit : ByteArray := prog_14_method_22_code
def yX12_isDigit : MethodName := ⟨RX12, "isDigit", "()Z"⟩
abbrev cX12_wrongAt : ByteArray := prog_14_method_23_code
def yX12_wrongAt : MethodName := ⟨RX12, "wrongAt", "(II)Z"⟩
abbrev cX12_takes : ByteArray := prog_14_method_24_code
def yX12_takes : MethodName := ⟨RX12, "takes", "(I)Z"⟩
abbrev cX12_readsNumber : ByteArray := prog_14_method_25_code
def yX12_readsNumber : MethodName := ⟨RX12, "readsNumber", "()Z"⟩
abbrev cX12_notes : ByteArray := prog_14_method_26_code
def yX12_notes : MethodName := ⟨RX12, "notes", "(II)V"⟩
abbrev cX12_opens : ByteArray := prog_14_method_27_code
def yX12_opens : MethodName := ⟨RX12, "opens", "(I)Z"⟩
abbrev cX12_waitTop : ByteArray := prog_14_method_28_code
def yX12_waitTop : MethodName := ⟨RX12, "waitTop", "()I"⟩
abbrev cX12_factOf : ByteArray := prog_14_method_29_code
def yX12_factOf : MethodName := ⟨RX12, "factOf", "(I)I"⟩
abbrev cX12_sumSign : ByteArray := prog_14_method_30_code
def yX12_sumSign : MethodName := ⟨RX12, "sumSign", "(I)I"⟩
abbrev cX12_closesSums : ByteArray := prog_14_method_31_code
def yX12_closesSums : MethodName := ⟨RX12, "closesSums", "(Z)V"⟩
abbrev cX12_readsFactor : ByteArray := prog_14_method_32_code
def yX12_readsFactor : MethodName := ⟨RX12, "readsFactor", "()Z"⟩
abbrev cX12_hasOpenSum : ByteArray := prog_14_method_33_code
def yX12_hasOpenSum : MethodName := ⟨RX12, "hasOpenSum", "(I)Z"⟩
abbrev cX12_readsSum : ByteArray := prog_14_method_34_code
def yX12_readsSum : MethodName := ⟨RX12, "readsSum", "()Z"⟩
abbrev cX12_endsPiece : ByteArray := prog_14_method_35_code
def yX12_endsPiece : MethodName := ⟨RX12, "endsPiece", "()V"⟩
abbrev cX12_lands : ByteArray := prog_14_method_36_code
def yX12_lands : MethodName := ⟨RX12, "lands", "(Z)V"⟩
abbrev cX12_jumps : ByteArray := prog_14_method_37_code
def yX12_jumps : MethodName := ⟨RX12, "jumps", "(I)V"⟩
abbrev cX12_readsCompared : ByteArray := prog_14_method_38_code
def yX12_readsCompared : MethodName := ⟨RX12, "readsCompared", "()Z"⟩
abbrev cX12_readsCondition : ByteArray := prog_14_method_39_code
def yX12_readsCondition : MethodName := ⟨RX12, "readsCondition", "()Z"⟩
abbrev cX12_readsRule : ByteArray := prog_14_method_40_code
def yX12_readsRule : MethodName := ⟨RX12, "readsRule", "()Z"⟩
abbrev cX12_beginsText : ByteArray := prog_14_method_41_code
def yX12_beginsText : MethodName := ⟨RX12, "beginsText", "(I)V"⟩
abbrev cX12_law : ByteArray := prog_14_method_42_code
def yX12_law : MethodName := ⟨RX12, "law", "(I)I"⟩
abbrev cX12_reckon : ByteArray := prog_14_method_43_code
def yX12_reckon : MethodName := ⟨RX12, "reckon", "(III)I"⟩
abbrev cX12_reckonsTo : ByteArray := prog_14_method_44_code
def yX12_reckonsTo : MethodName := ⟨RX12, "reckonsTo", "(II)I"⟩
abbrev cX12_byLaw : ByteArray := prog_14_method_45_code
def yX12_byLaw : MethodName := ⟨RX12, "byLaw", "(II)I"⟩
abbrev cX12_holdsAny : ByteArray := prog_14_method_46_code
def yX12_holdsAny : MethodName := ⟨RX12, "holdsAny", "(I)Z"⟩
abbrev cX12_isLetter : ByteArray := prog_14_method_47_code
def yX12_isLetter : MethodName := ⟨RX12, "isLetter", "()Z"⟩
abbrev cX12_readsAmount : ByteArray := prog_14_method_48_code
def yX12_readsAmount : MethodName := ⟨RX12, "readsAmount", "()Z"⟩
abbrev cX12_readsMeant : ByteArray := prog_14_method_49_code
def yX12_readsMeant : MethodName := ⟨RX12, "readsMeant", "()Z"⟩
abbrev cX12_readsDread : ByteArray := prog_14_method_50_code
def yX12_readsDread : MethodName := ⟨RX12, "readsDread", "(I)Z"⟩
abbrev cX12_dreads : ByteArray := prog_14_method_51_code
def yX12_dreads : MethodName := ⟨RX12, "dreads", "(II)I"⟩
abbrev cX12_readsOne : ByteArray := prog_14_method_52_code
def yX12_readsOne : MethodName := ⟨RX12, "readsOne", "()Z"⟩
abbrev cX12_readsTwo : ByteArray := prog_14_method_53_code
def yX12_readsTwo : MethodName := ⟨RX12, "readsTwo", "()Z"⟩
abbrev cX12_readsDoor : ByteArray := prog_14_method_54_code
def yX12_readsDoor : MethodName := ⟨RX12, "readsDoor", "()Z"⟩
abbrev cX12_readsOrder : ByteArray := prog_14_method_55_code
def yX12_readsOrder : MethodName := ⟨RX12, "readsOrder", "()Z"⟩
abbrev cX12_laysAside : ByteArray := prog_14_method_56_code
def yX12_laysAside : MethodName := ⟨RX12, "laysAside", "()V"⟩
abbrev cX12_putsBack : ByteArray := prog_14_method_57_code
def yX12_putsBack : MethodName := ⟨RX12, "putsBack", "()V"⟩
abbrev cX12_orders : ByteArray := prog_14_method_58_code
def yX12_orders : MethodName := ⟨RX12, "orders", "(I)I"⟩
abbrev cX12_feels : ByteArray := prog_14_method_59_code
def yX12_feels : MethodName := ⟨RX12, "feels", "(II)V"⟩
abbrev cX12_feelsDoor : ByteArray := prog_14_method_60_code
def yX12_feelsDoor : MethodName := ⟨RX12, "feelsDoor", "(III)V"⟩
abbrev cX12_likedMost : ByteArray := prog_14_method_61_code
def yX12_likedMost : MethodName := ⟨RX12, "likedMost", "(II)I"⟩
abbrev cX12_triesDoor : ByteArray := prog_14_method_62_code
def yX12_triesDoor : MethodName := ⟨RX12, "triesDoor", "(III)V"⟩
abbrev cX12_goesOut : ByteArray := prog_14_method_63_code
def yX12_goesOut : MethodName := ⟨RX12, "goesOut", "(I)V"⟩
abbrev cX12_caughtBy : ByteArray := prog_14_method_64_code
def yX12_caughtBy : MethodName := ⟨RX12, "caughtBy", "(II)I"⟩
abbrev cX12_catches : ByteArray := prog_14_method_65_code
def yX12_catches : MethodName := ⟨RX12, "catches", "()V"⟩
abbrev cX12_nightGoes : ByteArray := prog_14_method_66_code
def yX12_nightGoes : MethodName := ⟨RX12, "nightGoes", "()V"⟩
abbrev cX12_nightsGo : ByteArray := prog_14_method_67_code
def yX12_nightsGo : MethodName := ⟨RX12, "nightsGo", "(I)V"⟩
abbrev cX12_nights : ByteArray := prog_14_method_68_code
def yX12_nights : MethodName := ⟨RX12, "nights", "(I)I"⟩
abbrev cX12_orNone : ByteArray := prog_14_method_69_code
def yX12_orNone : MethodName := ⟨RX12, "orNone", "(I)I"⟩
abbrev cX12_tried : ByteArray := prog_14_method_70_code
def yX12_tried : MethodName := ⟨RX12, "tried", "(II)I"⟩
abbrev cX12_dreadSum : ByteArray := prog_14_method_71_code
def yX12_dreadSum : MethodName := ⟨RX12, "dreadSum", "(I)I"⟩
abbrev cX12_personIs : ByteArray := prog_14_method_72_code
def yX12_personIs : MethodName := ⟨RX12, "personIs", "(II)I"⟩
abbrev cX12_doorIs : ByteArray := prog_14_method_73_code
def yX12_doorIs : MethodName := ⟨RX12, "doorIs", "(II)I"⟩
abbrev cX12_taught : ByteArray := prog_14_method_74_code
def yX12_taught : MethodName := ⟨RX12, "taught", "(II)I"⟩
abbrev cX12_laysWho : ByteArray := prog_14_method_75_code
def yX12_laysWho : MethodName := ⟨RX12, "laysWho", "()V"⟩
abbrev cX12_isCrew : ByteArray := prog_14_method_76_code
def yX12_isCrew : MethodName := ⟨RX12, "isCrew", "(I)Z"⟩
abbrev cX12_crew : ByteArray := prog_14_method_77_code
def yX12_crew : MethodName := ⟨RX12, "crew", "(I)I"⟩
abbrev cX12_lodgings : ByteArray := prog_14_method_78_code
def yX12_lodgings : MethodName := ⟨RX12, "lodgings", "()I"⟩
abbrev cX12_areCouple : ByteArray := prog_14_method_79_code
def yX12_areCouple : MethodName := ⟨RX12, "areCouple", "(III)Z"⟩
abbrev cX12_couples : ByteArray := prog_14_method_80_code
def yX12_couples : MethodName := ⟨RX12, "couples", "(I)I"⟩
abbrev cX12_lowest : ByteArray := prog_14_method_81_code
def yX12_lowest : MethodName := ⟨RX12, "lowest", "(I)I"⟩
abbrev cX12_firstWith : ByteArray := prog_14_method_82_code
def yX12_firstWith : MethodName := ⟨RX12, "firstWith", "(I)I"⟩
abbrev cX12_fashion : ByteArray := prog_14_method_83_code
def yX12_fashion : MethodName := ⟨RX12, "fashion", "(III)I"⟩
abbrev cX12_fears : ByteArray := prog_14_method_84_code
def yX12_fears : MethodName := ⟨RX12, "fears", "(I)I"⟩
abbrev cX12_unlikeBy : ByteArray := prog_14_method_85_code
def yX12_unlikeBy : MethodName := ⟨RX12, "unlikeBy", "(II)I"⟩
abbrev cX12_unlike : ByteArray := prog_14_method_86_code
def yX12_unlike : MethodName := ⟨RX12, "unlike", "(II)I"⟩
abbrev cX12_mostLike : ByteArray := prog_14_method_87_code
def yX12_mostLike : MethodName := ⟨RX12, "mostLike", "(I)I"⟩
abbrev cX12_circleOf : ByteArray := prog_14_method_88_code
def yX12_circleOf : MethodName := ⟨RX12, "circleOf", "(II)I"⟩
abbrev cX12_circles : ByteArray := prog_14_method_89_code
def yX12_circles : MethodName := ⟨RX12, "circles", "(II)I"⟩
abbrev cX12_groupOf : ByteArray := prog_14_method_90_code
def yX12_groupOf : MethodName := ⟨RX12, "groupOf", "(II)I"⟩
abbrev cX12_isKeystone : ByteArray := prog_14_method_91_code
def yX12_isKeystone : MethodName := ⟨RX12, "isKeystone", "(I)Z"⟩
abbrev cX12_keystones : ByteArray := prog_14_method_92_code
def yX12_keystones : MethodName := ⟨RX12, "keystones", "()I"⟩
abbrev cX12_steps : ByteArray := prog_14_method_93_code
def yX12_steps : MethodName := ⟨RX12, "steps", "(II)I"⟩
abbrev cX12_bounds : ByteArray := prog_14_method_94_code
def yX12_bounds : MethodName := ⟨RX12, "bounds", "(II)Z"⟩
abbrev cX12_guess : ByteArray := prog_14_method_95_code
def yX12_guess : MethodName := ⟨RX12, "guess", "(II)I"⟩
abbrev cX12_leaves : ByteArray := prog_14_method_96_code
def yX12_leaves : MethodName := ⟨RX12, "leaves", "(II)I"⟩
abbrev cX12_sentNext : ByteArray := prog_14_method_97_code
def yX12_sentNext : MethodName := ⟨RX12, "sentNext", "(II)I"⟩
abbrev cX12_changesOrder : ByteArray := prog_14_method_98_code
def yX12_changesOrder : MethodName := ⟨RX12, "changesOrder", "(II)V"⟩
abbrev cX12_nextOrder : ByteArray := prog_14_method_99_code
def yX12_nextOrder : MethodName := ⟨RX12, "nextOrder", "(I)Z"⟩
abbrev cX12_canStand : ByteArray := prog_14_method_100_code
def yX12_canStand : MethodName := ⟨RX12, "canStand", "(I)Z"⟩
abbrev cX12_guards : ByteArray := prog_14_method_101_code
def yX12_guards : MethodName := ⟨RX12, "guards", "(I)I"⟩
abbrev cX12_word : ByteArray := prog_14_method_102_code
def yX12_word : MethodName := ⟨RX12, "word", "(III)J"⟩
abbrev cX12_rooms : ByteArray := prog_14_method_103_code
def yX12_rooms : MethodName := ⟨RX12, "rooms", "(II)I"⟩
abbrev cX12_sleeps : ByteArray := prog_14_method_104_code
def yX12_sleeps : MethodName := ⟨RX12, "sleeps", "(III)I"⟩
abbrev cX12_seed : ByteArray := prog_14_method_105_code
def yX12_seed : MethodName := ⟨RX12, "seed", "(I)Z"⟩
abbrev cX12_keep : ByteArray := prog_14_method_106_code
def yX12_keep : MethodName := ⟨RX12, "keep", "()I"⟩
abbrev cX12_undo : ByteArray := prog_14_method_107_code
def yX12_undo : MethodName := ⟨RX12, "undo", "()Z"⟩
abbrev cX12_check : ByteArray := prog_14_method_108_code
def yX12_check : MethodName := ⟨RX12, "check", "(I)I"⟩
abbrev cX12_twos : ByteArray := prog_14_method_109_code
def yX12_twos : MethodName := ⟨RX12, "twos", "()I"⟩
abbrev cX12_openedOfAll : ByteArray := prog_14_method_110_code
def yX12_openedOfAll : MethodName := ⟨RX12, "openedOfAll", "()I"⟩
abbrev cX12_count : ByteArray := prog_14_method_111_code
def yX12_count : MethodName := ⟨RX12, "count", "(I)I"⟩
def RJ11 : String := "java/lang/Character"
abbrev cJ11_isValidCodePoint_9a6ad : ByteArray := prog_15_method_11_code
def yJ11_isValidCodePoint_9a6ad : MethodName := ⟨RJ11, "isValidCodePoint", "(I)Z"⟩
abbrev cJ11_highSurrogate_5068e : ByteArray := prog_15_method_28_code
def yJ11_highSurrogate_5068e : MethodName := ⟨RJ11, "highSurrogate", "(I)C"⟩
abbrev cJ11_lowSurrogate_5068e : ByteArray := prog_15_method_29_code
def yJ11_lowSurrogate_5068e : MethodName := ⟨RJ11, "lowSurrogate", "(I)C"⟩
def RJ6 : String := "java/lang/Integer"
abbrev cJ6_bitCount_0f7a4 : ByteArray := prog_16_method_49_code
def yJ6_bitCount_0f7a4 : MethodName := ⟨RJ6, "bitCount", "(I)I"⟩
def RJ9 : String := "java/lang/Math"
abbrev cJ9_abs_0f7a4 : ByteArray := prog_17_method_59_code
def yJ9_abs_0f7a4 : MethodName := ⟨RJ9, "abs", "(I)I"⟩
abbrev cJ9_max_7cf53 : ByteArray := prog_17_method_65_code
def yJ9_max_7cf53 : MethodName := ⟨RJ9, "max", "(II)I"⟩
abbrev cJ9_min_7cf53 : ByteArray := prog_17_method_69_code
def yJ9_min_7cf53 : MethodName := ⟨RJ9, "min", "(II)I"⟩
def RJ0 : String := "java/lang/String"
abbrev cJ0_length_8abf5 : ByteArray := prog_18_method_54_code
def yJ0_length_8abf5 : MethodName := ⟨RJ0, "length", "()I"⟩
abbrev cJ0_indexOf_0f7a4 : ByteArray := prog_18_method_79_code
def yJ0_indexOf_0f7a4 : MethodName := ⟨RJ0, "indexOf", "(I)I"⟩
abbrev cJ0_indexOf_7cf53 : ByteArray := prog_18_method_80_code
def yJ0_indexOf_7cf53 : MethodName := ⟨RJ0, "indexOf", "(II)I"⟩
abbrev cJ0_coder_7d493 : ByteArray := prog_18_method_152_code
def yJ0_coder_7d493 : MethodName := ⟨RJ0, "coder", "()B"⟩
abbrev cJ0_isLatin1_aae02 : ByteArray := prog_18_method_154_code
def yJ0_isLatin1_aae02 : MethodName := ⟨RJ0, "isLatin1", "()Z"⟩
abbrev cJ0_checkBoundsBeginEnd_23922 : ByteArray := prog_18_method_158_code
def yJ0_checkBoundsBeginEnd_23922 : MethodName := ⟨RJ0, "checkBoundsBeginEnd", "(III)V"⟩
def RJ1 : String := "java/lang/StringLatin1"
abbrev cJ1_canEncode_9a6ad : ByteArray := prog_19_method_4_code
def yJ1_canEncode_9a6ad : MethodName := ⟨RJ1, "canEncode", "(I)Z"⟩
abbrev cJ1_indexOf_4cfef : ByteArray := prog_19_method_22_code
def yJ1_indexOf_4cfef : MethodName := ⟨RJ1, "indexOf", "([BIII)I"⟩
abbrev cJ1_indexOfChar_4cfef : ByteArray := prog_19_method_23_code
def yJ1_indexOfChar_4cfef : MethodName := ⟨RJ1, "indexOfChar", "([BIII)I"⟩
def RJ2 : String := "java/lang/StringUTF16"
abbrev cJ2_getChar_3b067 : ByteArray := prog_20_method_5_code
def yJ2_getChar_3b067 : MethodName := ⟨RJ2, "getChar", "([BI)C"⟩
abbrev cJ2_length_9d52b : ByteArray := prog_20_method_6_code
def yJ2_length_9d52b : MethodName := ⟨RJ2, "length", "([B)I"⟩
abbrev cJ2_indexOf_4cfef : ByteArray := prog_20_method_40_code
def yJ2_indexOf_4cfef : MethodName := ⟨RJ2, "indexOf", "([BIII)I"⟩
abbrev cJ2_indexOfChar_4cfef : ByteArray := prog_20_method_47_code
def yJ2_indexOfChar_4cfef : MethodName := ⟨RJ2, "indexOfChar", "([BIII)I"⟩
abbrev cJ2_indexOfCharUnsafe_4cfef : ByteArray := prog_20_method_48_code
def yJ2_indexOfCharUnsafe_4cfef : MethodName := ⟨RJ2, "indexOfCharUnsafe", "([BIII)I"⟩
abbrev cJ2_indexOfSupplementary_4cfef : ByteArray := prog_20_method_49_code
def yJ2_indexOfSupplementary_4cfef : MethodName := ⟨RJ2, "indexOfSupplementary", "([BIII)I"⟩
abbrev cJ2_checkBoundsBeginEnd_d044e : ByteArray := prog_20_method_93_code
def yJ2_checkBoundsBeginEnd_d044e : MethodName := ⟨RJ2, "checkBoundsBeginEnd", "(II[B)V"⟩
def RJ3 : String := "jdk/internal/util/Preconditions"
abbrev cJ3_checkFromToIndex_8c36e : ByteArray := prog_21_method_12_code
def yJ3_checkFromToIndex_8c36e : MethodName := ⟨RJ3, "checkFromToIndex", "(IIILjava/util/function/BiFunction;)I"⟩
def RL : String := "FearLocksLaw"
abbrev cL_law : ByteArray := code
def yL_law : MethodName := ⟨RL, "law", "([I)Z"⟩
abbrev vwCl : List vw_C := [(RX0, TX0, 9), (RX1, TX1, 2), (RX2, TX2, 3), (RX3, TX3, 1), (RX4, TX4, 10), (RX5, TX5, 2), (RX7, TX7, 3), (RX8, TX8, 2), (RX9, TX9, 2), (RX10, TX10, 5), (RX11, TX11, 11), (RX12, TX12, 52)]
def jJ0_checkBoundsBeginEnd_23922 : MethodName × ByteArray × Nat × Option FieldType := (yJ0_checkBoundsBeginEnd_23922, cJ0_checkBoundsBeginEnd_23922, 3, none)
def jJ0_coder_7d493 : MethodName × ByteArray × Nat × Option FieldType := (yJ0_coder_7d493, cJ0_coder_7d493, 1, (some .byte))
def jJ0_indexOf_0f7a4 : MethodName × ByteArray × Nat × Option FieldType := (yJ0_indexOf_0f7a4, cJ0_indexOf_0f7a4, 2, (some .int))
def jJ0_indexOf_7cf53 : MethodName × ByteArray × Nat × Option FieldType := (yJ0_indexOf_7cf53, cJ0_indexOf_7cf53, 3, (some .int))
def jJ0_isLatin1_aae02 : MethodName × ByteArray × Nat × Option FieldType := (yJ0_isLatin1_aae02, cJ0_isLatin1_aae02, 1, (some .boolean))
def jJ0_length_8abf5 : MethodName × ByteArray × Nat × Option FieldType := (yJ0_length_8abf5, cJ0_length_8abf5, 1, (some .int))
def jJ11_highSurrogate_5068e : MethodName × ByteArray × Nat × Option FieldType := (yJ11_highSurrogate_5068e, cJ11_highSurrogate_5068e, 1, (some .char))
def jJ11_isValidCodePoint_9a6ad : MethodName × ByteArray × Nat × Option FieldType := (yJ11_isValidCodePoint_9a6ad, cJ11_isValidCodePoint_9a6ad, 2, (some .boolean))
def jJ11_lowSurrogate_5068e : MethodName × ByteArray × Nat × Option FieldType := (yJ11_lowSurrogate_5068e, cJ11_lowSurrogate_5068e, 1, (some .char))
def jJ1_canEncode_9a6ad : MethodName × ByteArray × Nat × Option FieldType := (yJ1_canEncode_9a6ad, cJ1_canEncode_9a6ad, 1, (some .boolean))
def jJ1_indexOfChar_4cfef : MethodName × ByteArray × Nat × Option FieldType := (yJ1_indexOfChar_4cfef, cJ1_indexOfChar_4cfef, 6, (some .int))
def jJ1_indexOf_4cfef : MethodName × ByteArray × Nat × Option FieldType := (yJ1_indexOf_4cfef, cJ1_indexOf_4cfef, 4, (some .int))
def jJ2_checkBoundsBeginEnd_d044e : MethodName × ByteArray × Nat × Option FieldType := (yJ2_checkBoundsBeginEnd_d044e, cJ2_checkBoundsBeginEnd_d044e, 3, none)
def jJ2_getChar_3b067 : MethodName × ByteArray × Nat × Option FieldType := (yJ2_getChar_3b067, cJ2_getChar_3b067, 2, (some .char))
def jJ2_indexOfCharUnsafe_4cfef : MethodName × ByteArray × Nat × Option FieldType := (yJ2_indexOfCharUnsafe_4cfef, cJ2_indexOfCharUnsafe_4cfef, 5, (some .int))
def jJ2_indexOfChar_4cfef : MethodName × ByteArray × Nat × Option FieldType := (yJ2_indexOfChar_4cfef, cJ2_indexOfChar_4cfef, 4, (some .int))
def jJ2_indexOfSupplementary_4cfef : MethodName × ByteArray × Nat × Option FieldType := (yJ2_indexOfSupplementary_4cfef, cJ2_indexOfSupplementary_4cfef, 7, (some .int))
def jJ2_indexOf_4cfef : MethodName × ByteArray × Nat × Option FieldType := (yJ2_indexOf_4cfef, cJ2_indexOf_4cfef, 4, (some .int))
def jJ2_length_9d52b : MethodName × ByteArray × Nat × Option FieldType := (yJ2_length_9d52b, cJ2_length_9d52b, 1, (some .int))
def jJ3_checkFromToIndex_8c36e : MethodName × ByteArray × Nat × Option FieldType := (yJ3_checkFromToIndex_8c36e, cJ3_checkFromToIndex_8c36e, 4, (some .int))
def jJ6_bitCount_0f7a4 : MethodName × ByteArray × Nat × Option FieldType := (yJ6_bitCount_0f7a4, cJ6_bitCount_0f7a4, 1, (some .int))
def jJ9_abs_0f7a4 : MethodName × ByteArray × Nat × Option FieldType := (yJ9_abs_0f7a4, cJ9_abs_0f7a4, 1, (some .int))
def jJ9_max_7cf53 : MethodName × ByteArray × Nat × Option FieldType := (yJ9_max_7cf53, cJ9_max_7cf53, 2, (some .int))
def jJ9_min_7cf53 : MethodName × ByteArray × Nat × Option FieldType := (yJ9_min_7cf53, cJ9_min_7cf53, 2, (some .int))
def jX0_acquaint : MethodName × ByteArray × Nat × Option FieldType := (yX0_acquaint, cX0_acquaint, 4, none)
def jX0_acquaintances : MethodName × ByteArray × Nat × Option FieldType := (yX0_acquaintances, cX0_acquaintances, 3, (some .int))
def jX0_allsFears : MethodName × ByteArray × Nat × Option FieldType := (yX0_allsFears, cX0_allsFears, 3, (some .int))
def jX0_copyDreads : MethodName × ByteArray × Nat × Option FieldType := (yX0_copyDreads, cX0_copyDreads, 4, none)
def jX0_copyFrom : MethodName × ByteArray × Nat × Option FieldType := (yX0_copyFrom, cX0_copyFrom, 3, none)
def jX0_doorsOpenTo : MethodName × ByteArray × Nat × Option FieldType := (yX0_doorsOpenTo, cX0_doorsOpenTo, 4, (some .int))
def jX0_draw : MethodName × ByteArray × Nat × Option FieldType := (yX0_draw, cX0_draw, 1, (some .int))
def jX0_dreadInAll : MethodName × ByteArray × Nat × Option FieldType := (yX0_dreadInAll, cX0_dreadInAll, 4, (some .int))
def jX0_dreadOf : MethodName × ByteArray × Nat × Option FieldType := (yX0_dreadOf, cX0_dreadOf, 3, (some .int))
def jX0_dropDoor : MethodName × ByteArray × Nat × Option FieldType := (yX0_dropDoor, cX0_dropDoor, 2, none)
def jX0_fearOf : MethodName × ByteArray × Nat × Option FieldType := (yX0_fearOf, cX0_fearOf, 5, (some .int))
def jX0_fearsFrom : MethodName × ByteArray × Nat × Option FieldType := (yX0_fearsFrom, cX0_fearsFrom, 5, (some .int))
def jX0_goBackTo : MethodName × ByteArray × Nat × Option FieldType := (yX0_goBackTo, cX0_goBackTo, 3, none)
def jX0_greatestDread : MethodName × ByteArray × Nat × Option FieldType := (yX0_greatestDread, cX0_greatestDread, 4, (some .int))
def jX0_havingFear : MethodName × ByteArray × Nat × Option FieldType := (yX0_havingFear, cX0_havingFear, 4, (some .int))
def jX0_init : MethodName × ByteArray × Nat × Option FieldType := (yX0_init, cX0_init, 1, none)
def jX0_isDoor : MethodName × ByteArray × Nat × Option FieldType := (yX0_isDoor, cX0_isDoor, 2, (some .boolean))
def jX0_isPerson : MethodName × ByteArray × Nat × Option FieldType := (yX0_isPerson, cX0_isPerson, 2, (some .boolean))
def jX0_knownTo : MethodName × ByteArray × Nat × Option FieldType := (yX0_knownTo, cX0_knownTo, 2, (some .int))
def jX0_nobodysFears : MethodName × ByteArray × Nat × Option FieldType := (yX0_nobodysFears, cX0_nobodysFears, 3, (some .int))
def jX0_openedInAll : MethodName × ByteArray × Nat × Option FieldType := (yX0_openedInAll, cX0_openedInAll, 3, (some .int))
def jX0_openedOf : MethodName × ByteArray × Nat × Option FieldType := (yX0_openedOf, cX0_openedOf, 2, (some .int))
def jX0_openersOf : MethodName × ByteArray × Nat × Option FieldType := (yX0_openersOf, cX0_openersOf, 4, (some .int))
def jX0_opens : MethodName × ByteArray × Nat × Option FieldType := (yX0_opens, cX0_opens, 3, (some .boolean))
def jX0_setDread : MethodName × ByteArray × Nat × Option FieldType := (yX0_setDread, cX0_setDread, 4, none)
def jX0_tellDoor : MethodName × ByteArray × Nat × Option FieldType := (yX0_tellDoor, cX0_tellDoor, 4, none)
def jX10_append : MethodName × ByteArray × Nat × Option FieldType := (yX10_append, cX10_append, 3, none)
def jX10_byteAt : MethodName × ByteArray × Nat × Option FieldType := (yX10_byteAt, cX10_byteAt, 2, (some .int))
def jX10_cannotStand : MethodName × ByteArray × Nat × Option FieldType := (yX10_cannotStand, cX10_cannotStand, 1, (some .boolean))
def jX10_expect : MethodName × ByteArray × Nat × Option FieldType := (yX10_expect, cX10_expect, 2, (some .boolean))
def jX10_fail : MethodName × ByteArray × Nat × Option FieldType := (yX10_fail, cX10_fail, 3, (some .boolean))
def jX10_holds : MethodName × ByteArray × Nat × Option FieldType := (yX10_holds, cX10_holds, 4, (some .boolean))
def jX10_init : MethodName × ByteArray × Nat × Option FieldType := (yX10_init, cX10_init, 1, none)
def jX10_isDigit : MethodName × ByteArray × Nat × Option FieldType := (yX10_isDigit, cX10_isDigit, 1, (some .boolean))
def jX10_isFear : MethodName × ByteArray × Nat × Option FieldType := (yX10_isFear, cX10_isFear, 1, (some .boolean))
def jX10_now : MethodName × ByteArray × Nat × Option FieldType := (yX10_now, cX10_now, 1, (some .int))
def jX10_readNumber : MethodName × ByteArray × Nat × Option FieldType := (yX10_readNumber, cX10_readNumber, 4, (some .int))
def jX10_take : MethodName × ByteArray × Nat × Option FieldType := (yX10_take, cX10_take, 2, none)
def jX11_bounded : MethodName × ByteArray × Nat × Option FieldType := (yX11_bounded, cX11_bounded, 3, (some .int))
def jX11_canBeTried : MethodName × ByteArray × Nat × Option FieldType := (yX11_canBeTried, cX11_canBeTried, 2, (some .boolean))
def jX11_check : MethodName × ByteArray × Nat × Option FieldType := (yX11_check, cX11_check, 4, (some .int))
def jX11_circles : MethodName × ByteArray × Nat × Option FieldType := (yX11_circles, cX11_circles, 3, (some .int))
def jX11_count : MethodName × ByteArray × Nat × Option FieldType := (yX11_count, cX11_count, 2, (some .int))
def jX11_couples : MethodName × ByteArray × Nat × Option FieldType := (yX11_couples, cX11_couples, 2, (some .int))
def jX11_crew : MethodName × ByteArray × Nat × Option FieldType := (yX11_crew, cX11_crew, 3, (some .int))
def jX11_doorIs : MethodName × ByteArray × Nat × Option FieldType := (yX11_doorIs, cX11_doorIs, 3, (some .int))
def jX11_dreads : MethodName × ByteArray × Nat × Option FieldType := (yX11_dreads, cX11_dreads, 4, (some .int))
def jX11_fashion : MethodName × ByteArray × Nat × Option FieldType := (yX11_fashion, cX11_fashion, 7, (some .int))
def jX11_fears : MethodName × ByteArray × Nat × Option FieldType := (yX11_fears, cX11_fears, 2, (some .int))
def jX11_feed : MethodName × ByteArray × Nat × Option FieldType := (yX11_feed, cX11_feed, 6, (some .int))
def jX11_guards : MethodName × ByteArray × Nat × Option FieldType := (yX11_guards, cX11_guards, 2, (some .int))
def jX11_guess : MethodName × ByteArray × Nat × Option FieldType := (yX11_guess, cX11_guess, 8, (some .int))
def jX11_has : MethodName × ByteArray × Nat × Option FieldType := (yX11_has, cX11_has, 2, (some .boolean))
def jX11_init : MethodName × ByteArray × Nat × Option FieldType := (yX11_init, cX11_init, 1, none)
def jX11_keep : MethodName × ByteArray × Nat × Option FieldType := (yX11_keep, cX11_keep, 1, (some .int))
def jX11_keystones : MethodName × ByteArray × Nat × Option FieldType := (yX11_keystones, cX11_keystones, 1, (some .int))
def jX11_law : MethodName × ByteArray × Nat × Option FieldType := (yX11_law, cX11_law, 4, (some .int))
def jX11_lodgings : MethodName × ByteArray × Nat × Option FieldType := (yX11_lodgings, cX11_lodgings, 1, (some .int))
def jX11_mostLike : MethodName × ByteArray × Nat × Option FieldType := (yX11_mostLike, cX11_mostLike, 2, (some .int))
def jX11_nights : MethodName × ByteArray × Nat × Option FieldType := (yX11_nights, cX11_nights, 2, (some .int))
def jX11_orders : MethodName × ByteArray × Nat × Option FieldType := (yX11_orders, cX11_orders, 3, (some .int))
def jX11_personIs : MethodName × ByteArray × Nat × Option FieldType := (yX11_personIs, cX11_personIs, 3, (some .int))
def jX11_rooms : MethodName × ByteArray × Nat × Option FieldType := (yX11_rooms, cX11_rooms, 4, (some .int))
def jX11_seed : MethodName × ByteArray × Nat × Option FieldType := (yX11_seed, cX11_seed, 2, (some .boolean))
def jX11_sentNext : MethodName × ByteArray × Nat × Option FieldType := (yX11_sentNext, cX11_sentNext, 4, (some .int))
def jX11_steps : MethodName × ByteArray × Nat × Option FieldType := (yX11_steps, cX11_steps, 3, (some .int))
def jX11_taught : MethodName × ByteArray × Nat × Option FieldType := (yX11_taught, cX11_taught, 3, (some .int))
def jX11_tried : MethodName × ByteArray × Nat × Option FieldType := (yX11_tried, cX11_tried, 3, (some .int))
def jX11_undo : MethodName × ByteArray × Nat × Option FieldType := (yX11_undo, cX11_undo, 1, (some .boolean))
def jX11_unlike : MethodName × ByteArray × Nat × Option FieldType := (yX11_unlike, cX11_unlike, 3, (some .int))
def jX11_word : MethodName × ByteArray × Nat × Option FieldType := (yX11_word, cX11_word, 4, (some .long))
def jX12_areCouple : MethodName × ByteArray × Nat × Option FieldType := (yX12_areCouple, cX12_areCouple, 5, (some .boolean))
def jX12_beginsText : MethodName × ByteArray × Nat × Option FieldType := (yX12_beginsText, cX12_beginsText, 2, none)
def jX12_bits : MethodName × ByteArray × Nat × Option FieldType := (yX12_bits, cX12_bits, 3, (some .int))
def jX12_bounds : MethodName × ByteArray × Nat × Option FieldType := (yX12_bounds, cX12_bounds, 6, (some .boolean))
def jX12_byLaw : MethodName × ByteArray × Nat × Option FieldType := (yX12_byLaw, cX12_byLaw, 5, (some .int))
def jX12_canStand : MethodName × ByteArray × Nat × Option FieldType := (yX12_canStand, cX12_canStand, 4, (some .boolean))
def jX12_catches : MethodName × ByteArray × Nat × Option FieldType := (yX12_catches, cX12_catches, 5, none)
def jX12_caughtBy : MethodName × ByteArray × Nat × Option FieldType := (yX12_caughtBy, cX12_caughtBy, 3, (some .int))
def jX12_changesOrder : MethodName × ByteArray × Nat × Option FieldType := (yX12_changesOrder, cX12_changesOrder, 4, none)
def jX12_check : MethodName × ByteArray × Nat × Option FieldType := (yX12_check, cX12_check, 3, (some .int))
def jX12_circleOf : MethodName × ByteArray × Nat × Option FieldType := (yX12_circleOf, cX12_circleOf, 7, (some .int))
def jX12_circles : MethodName × ByteArray × Nat × Option FieldType := (yX12_circles, cX12_circles, 6, (some .int))
def jX12_closesSums : MethodName × ByteArray × Nat × Option FieldType := (yX12_closesSums, cX12_closesSums, 2, none)
def jX12_copies : MethodName × ByteArray × Nat × Option FieldType := (yX12_copies, cX12_copies, 3, none)
def jX12_count : MethodName × ByteArray × Nat × Option FieldType := (yX12_count, cX12_count, 2, (some .int))
def jX12_couples : MethodName × ByteArray × Nat × Option FieldType := (yX12_couples, cX12_couples, 5, (some .int))
def jX12_crew : MethodName × ByteArray × Nat × Option FieldType := (yX12_crew, cX12_crew, 4, (some .int))
def jX12_doorIs : MethodName × ByteArray × Nat × Option FieldType := (yX12_doorIs, cX12_doorIs, 3, (some .int))
def jX12_doorsOf : MethodName × ByteArray × Nat × Option FieldType := (yX12_doorsOf, cX12_doorsOf, 4, (some .int))
def jX12_dread : MethodName × ByteArray × Nat × Option FieldType := (yX12_dread, cX12_dread, 3, (some .int))
def jX12_dreadSum : MethodName × ByteArray × Nat × Option FieldType := (yX12_dreadSum, cX12_dreadSum, 4, (some .int))
def jX12_dreads : MethodName × ByteArray × Nat × Option FieldType := (yX12_dreads, cX12_dreads, 4, (some .int))
def jX12_endsPiece : MethodName × ByteArray × Nat × Option FieldType := (yX12_endsPiece, cX12_endsPiece, 1, none)
def jX12_factOf : MethodName × ByteArray × Nat × Option FieldType := (yX12_factOf, cX12_factOf, 1, (some .int))
def jX12_fashion : MethodName × ByteArray × Nat × Option FieldType := (yX12_fashion, cX12_fashion, 8, (some .int))
def jX12_fearOf : MethodName × ByteArray × Nat × Option FieldType := (yX12_fearOf, cX12_fearOf, 6, (some .int))
def jX12_fears : MethodName × ByteArray × Nat × Option FieldType := (yX12_fears, cX12_fears, 5, (some .int))
def jX12_feed : MethodName × ByteArray × Nat × Option FieldType := (yX12_feed, cX12_feed, 6, (some .int))
def jX12_feels : MethodName × ByteArray × Nat × Option FieldType := (yX12_feels, cX12_feels, 4, none)
def jX12_feelsDoor : MethodName × ByteArray × Nat × Option FieldType := (yX12_feelsDoor, cX12_feelsDoor, 4, none)
def jX12_firstWith : MethodName × ByteArray × Nat × Option FieldType := (yX12_firstWith, cX12_firstWith, 4, (some .int))
def jX12_goesOut : MethodName × ByteArray × Nat × Option FieldType := (yX12_goesOut, cX12_goesOut, 4, none)
def jX12_greatest : MethodName × ByteArray × Nat × Option FieldType := (yX12_greatest, cX12_greatest, 4, (some .int))
def jX12_groupOf : MethodName × ByteArray × Nat × Option FieldType := (yX12_groupOf, cX12_groupOf, 6, (some .int))
def jX12_guards : MethodName × ByteArray × Nat × Option FieldType := (yX12_guards, cX12_guards, 5, (some .int))
def jX12_guess : MethodName × ByteArray × Nat × Option FieldType := (yX12_guess, cX12_guess, 5, (some .int))
def jX12_has : MethodName × ByteArray × Nat × Option FieldType := (yX12_has, cX12_has, 2, (some .boolean))
def jX12_hasOpenSum : MethodName × ByteArray × Nat × Option FieldType := (yX12_hasOpenSum, cX12_hasOpenSum, 3, (some .boolean))
def jX12_here : MethodName × ByteArray × Nat × Option FieldType := (yX12_here, cX12_here, 1, (some .int))
def jX12_holdsAny : MethodName × ByteArray × Nat × Option FieldType := (yX12_holdsAny, cX12_holdsAny, 3, (some .boolean))
def jX12_in : MethodName × ByteArray × Nat × Option FieldType := (yX12_in, cX12_in, 3, (some .boolean))
def jX12_init : MethodName × ByteArray × Nat × Option FieldType := (yX12_init, cX12_init, 1, none)
def jX12_isCrew : MethodName × ByteArray × Nat × Option FieldType := (yX12_isCrew, cX12_isCrew, 3, (some .boolean))
def jX12_isDigit : MethodName × ByteArray × Nat × Option FieldType := (yX12_isDigit, cX12_isDigit, 1, (some .boolean))
def jX12_isDoor : MethodName × ByteArray × Nat × Option FieldType := (yX12_isDoor, cX12_isDoor, 2, (some .boolean))
def jX12_isKeystone : MethodName × ByteArray × Nat × Option FieldType := (yX12_isKeystone, cX12_isKeystone, 3, (some .boolean))
def jX12_isLetter : MethodName × ByteArray × Nat × Option FieldType := (yX12_isLetter, cX12_isLetter, 1, (some .boolean))
def jX12_isTold : MethodName × ByteArray × Nat × Option FieldType := (yX12_isTold, cX12_isTold, 2, (some .boolean))
def jX12_jumps : MethodName × ByteArray × Nat × Option FieldType := (yX12_jumps, cX12_jumps, 2, none)
def jX12_keep : MethodName × ByteArray × Nat × Option FieldType := (yX12_keep, cX12_keep, 1, (some .int))
def jX12_keystones : MethodName × ByteArray × Nat × Option FieldType := (yX12_keystones, cX12_keystones, 3, (some .int))
def jX12_lands : MethodName × ByteArray × Nat × Option FieldType := (yX12_lands, cX12_lands, 3, none)
def jX12_law : MethodName × ByteArray × Nat × Option FieldType := (yX12_law, cX12_law, 4, (some .int))
def jX12_laysAside : MethodName × ByteArray × Nat × Option FieldType := (yX12_laysAside, cX12_laysAside, 2, none)
def jX12_laysWho : MethodName × ByteArray × Nat × Option FieldType := (yX12_laysWho, cX12_laysWho, 2, none)
def jX12_leaves : MethodName × ByteArray × Nat × Option FieldType := (yX12_leaves, cX12_leaves, 4, (some .int))
def jX12_likedMost : MethodName × ByteArray × Nat × Option FieldType := (yX12_likedMost, cX12_likedMost, 7, (some .int))
def jX12_limit : MethodName × ByteArray × Nat × Option FieldType := (yX12_limit, cX12_limit, 1, (some .int))
def jX12_lodgings : MethodName × ByteArray × Nat × Option FieldType := (yX12_lodgings, cX12_lodgings, 5, (some .int))
def jX12_lowest : MethodName × ByteArray × Nat × Option FieldType := (yX12_lowest, cX12_lowest, 2, (some .int))
def jX12_max : MethodName × ByteArray × Nat × Option FieldType := (yX12_max, cX12_max, 2, (some .int))
def jX12_min : MethodName × ByteArray × Nat × Option FieldType := (yX12_min, cX12_min, 2, (some .int))
def jX12_mostLike : MethodName × ByteArray × Nat × Option FieldType := (yX12_mostLike, cX12_mostLike, 4, (some .int))
def jX12_nextOrder : MethodName × ByteArray × Nat × Option FieldType := (yX12_nextOrder, cX12_nextOrder, 6, (some .boolean))
def jX12_nightGoes : MethodName × ByteArray × Nat × Option FieldType := (yX12_nightGoes, cX12_nightGoes, 2, none)
def jX12_nights : MethodName × ByteArray × Nat × Option FieldType := (yX12_nights, cX12_nights, 2, (some .int))
def jX12_nightsGo : MethodName × ByteArray × Nat × Option FieldType := (yX12_nightsGo, cX12_nightsGo, 3, none)
def jX12_notes : MethodName × ByteArray × Nat × Option FieldType := (yX12_notes, cX12_notes, 3, none)
def jX12_octet : MethodName × ByteArray × Nat × Option FieldType := (yX12_octet, cX12_octet, 2, (some .int))
def jX12_openedOfAll : MethodName × ByteArray × Nat × Option FieldType := (yX12_openedOfAll, cX12_openedOfAll, 3, (some .int))
def jX12_opens : MethodName × ByteArray × Nat × Option FieldType := (yX12_opens, cX12_opens, 2, (some .boolean))
def jX12_orNone : MethodName × ByteArray × Nat × Option FieldType := (yX12_orNone, cX12_orNone, 1, (some .int))
def jX12_orders : MethodName × ByteArray × Nat × Option FieldType := (yX12_orders, cX12_orders, 3, (some .int))
def jX12_personIs : MethodName × ByteArray × Nat × Option FieldType := (yX12_personIs, cX12_personIs, 3, (some .int))
def jX12_putsBack : MethodName × ByteArray × Nat × Option FieldType := (yX12_putsBack, cX12_putsBack, 2, none)
def jX12_readsAmount : MethodName × ByteArray × Nat × Option FieldType := (yX12_readsAmount, cX12_readsAmount, 2, (some .boolean))
def jX12_readsCompared : MethodName × ByteArray × Nat × Option FieldType := (yX12_readsCompared, cX12_readsCompared, 2, (some .boolean))
def jX12_readsCondition : MethodName × ByteArray × Nat × Option FieldType := (yX12_readsCondition, cX12_readsCondition, 1, (some .boolean))
def jX12_readsDoor : MethodName × ByteArray × Nat × Option FieldType := (yX12_readsDoor, cX12_readsDoor, 4, (some .boolean))
def jX12_readsDread : MethodName × ByteArray × Nat × Option FieldType := (yX12_readsDread, cX12_readsDread, 5, (some .boolean))
def jX12_readsFactor : MethodName × ByteArray × Nat × Option FieldType := (yX12_readsFactor, cX12_readsFactor, 2, (some .boolean))
def jX12_readsMeant : MethodName × ByteArray × Nat × Option FieldType := (yX12_readsMeant, cX12_readsMeant, 1, (some .boolean))
def jX12_readsNumber : MethodName × ByteArray × Nat × Option FieldType := (yX12_readsNumber, cX12_readsNumber, 2, (some .boolean))
def jX12_readsOne : MethodName × ByteArray × Nat × Option FieldType := (yX12_readsOne, cX12_readsOne, 2, (some .boolean))
def jX12_readsOrder : MethodName × ByteArray × Nat × Option FieldType := (yX12_readsOrder, cX12_readsOrder, 1, (some .boolean))
def jX12_readsRule : MethodName × ByteArray × Nat × Option FieldType := (yX12_readsRule, cX12_readsRule, 2, (some .boolean))
def jX12_readsSum : MethodName × ByteArray × Nat × Option FieldType := (yX12_readsSum, cX12_readsSum, 3, (some .boolean))
def jX12_readsTwo : MethodName × ByteArray × Nat × Option FieldType := (yX12_readsTwo, cX12_readsTwo, 5, (some .boolean))
def jX12_reckon : MethodName × ByteArray × Nat × Option FieldType := (yX12_reckon, cX12_reckon, 3, (some .int))
def jX12_reckonsTo : MethodName × ByteArray × Nat × Option FieldType := (yX12_reckonsTo, cX12_reckonsTo, 8, (some .int))
def jX12_rooms : MethodName × ByteArray × Nat × Option FieldType := (yX12_rooms, cX12_rooms, 5, (some .int))
def jX12_seed : MethodName × ByteArray × Nat × Option FieldType := (yX12_seed, cX12_seed, 2, (some .boolean))
def jX12_sentNext : MethodName × ByteArray × Nat × Option FieldType := (yX12_sentNext, cX12_sentNext, 5, (some .int))
def jX12_size : MethodName × ByteArray × Nat × Option FieldType := (yX12_size, cX12_size, 1, (some .int))
def jX12_sleeps : MethodName × ByteArray × Nat × Option FieldType := (yX12_sleeps, cX12_sleeps, 7, (some .int))
def jX12_steps : MethodName × ByteArray × Nat × Option FieldType := (yX12_steps, cX12_steps, 7, (some .int))
def jX12_sumSign : MethodName × ByteArray × Nat × Option FieldType := (yX12_sumSign, cX12_sumSign, 1, (some .int))
def jX12_takes : MethodName × ByteArray × Nat × Option FieldType := (yX12_takes, cX12_takes, 2, (some .boolean))
def jX12_taught : MethodName × ByteArray × Nat × Option FieldType := (yX12_taught, cX12_taught, 7, (some .int))
def jX12_tried : MethodName × ByteArray × Nat × Option FieldType := (yX12_tried, cX12_tried, 4, (some .int))
def jX12_triesDoor : MethodName × ByteArray × Nat × Option FieldType := (yX12_triesDoor, cX12_triesDoor, 6, none)
def jX12_twos : MethodName × ByteArray × Nat × Option FieldType := (yX12_twos, cX12_twos, 3, (some .int))
def jX12_types : MethodName × ByteArray × Nat × Option FieldType := (yX12_types, cX12_types, 3, none)
def jX12_undo : MethodName × ByteArray × Nat × Option FieldType := (yX12_undo, cX12_undo, 1, (some .boolean))
def jX12_unlike : MethodName × ByteArray × Nat × Option FieldType := (yX12_unlike, cX12_unlike, 3, (some .int))
def jX12_unlikeBy : MethodName × ByteArray × Nat × Option FieldType := (yX12_unlikeBy, cX12_unlikeBy, 5, (some .int))
def jX12_unlocks : MethodName × ByteArray × Nat × Option FieldType := (yX12_unlocks, cX12_unlocks, 3, (some .boolean))
def jX12_waitTop : MethodName × ByteArray × Nat × Option FieldType := (yX12_waitTop, cX12_waitTop, 1, (some .int))
def jX12_whoUnlocks : MethodName × ByteArray × Nat × Option FieldType := (yX12_whoUnlocks, cX12_whoUnlocks, 4, (some .int))
def jX12_word : MethodName × ByteArray × Nat × Option FieldType := (yX12_word, cX12_word, 7, (some .long))
def jX12_wrongAt : MethodName × ByteArray × Nat × Option FieldType := (yX12_wrongAt, cX12_wrongAt, 3, (some .boolean))
def jX1_beside : MethodName × ByteArray × Nat × Option FieldType := (yX1_beside, cX1_beside, 4, (some .int))
def jX1_circleOf : MethodName × ByteArray × Nat × Option FieldType := (yX1_circleOf, cX1_circleOf, 3, (some .int))
def jX1_circlesOf : MethodName × ByteArray × Nat × Option FieldType := (yX1_circlesOf, cX1_circlesOf, 5, (some .int))
def jX1_difference : MethodName × ByteArray × Nat × Option FieldType := (yX1_difference, cX1_difference, 5, (some .int))
def jX1_grownFashion : MethodName × ByteArray × Nat × Option FieldType := (yX1_grownFashion, cX1_grownFashion, 5, (some .int))
def jX1_holdersTogether : MethodName × ByteArray × Nat × Option FieldType := (yX1_holdersTogether, cX1_holdersTogether, 6, (some .int))
def jX1_init : MethodName × ByteArray × Nat × Option FieldType := (yX1_init, cX1_init, 1, none)
def jX1_linkAlike : MethodName × ByteArray × Nat × Option FieldType := (yX1_linkAlike, cX1_linkAlike, 5, none)
def jX1_linkFellows : MethodName × ByteArray × Nat × Option FieldType := (yX1_linkFellows, cX1_linkFellows, 5, none)
def jX1_mostCouples : MethodName × ByteArray × Nat × Option FieldType := (yX1_mostCouples, cX1_mostCouples, 5, (some .int))
def jX1_mostWith : MethodName × ByteArray × Nat × Option FieldType := (yX1_mostWith, cX1_mostWith, 5, (some .int))
def jX1_nearestTo : MethodName × ByteArray × Nat × Option FieldType := (yX1_nearestTo, cX1_nearestTo, 5, (some .int))
def jX1_reached : MethodName × ByteArray × Nat × Option FieldType := (yX1_reached, cX1_reached, 5, (some .int))
def jX1_stepsBetween : MethodName × ByteArray × Nat × Option FieldType := (yX1_stepsBetween, cX1_stepsBetween, 5, (some .int))
def jX2_change : MethodName × ByteArray × Nat × Option FieldType := (yX2_change, cX2_change, 6, none)
def jX2_init : MethodName × ByteArray × Nat × Option FieldType := (yX2_init, cX2_init, 4, none)
def jX2_readFears : MethodName × ByteArray × Nat × Option FieldType := (yX2_readFears, cX2_readFears, 3, (some .int))
def jX2_readLine : MethodName × ByteArray × Nat × Option FieldType := (yX2_readLine, cX2_readLine, 4, (some .boolean))
def jX2_startsLine : MethodName × ByteArray × Nat × Option FieldType := (yX2_startsLine, cX2_startsLine, 2, (some .boolean))
def jX3_bestToSend : MethodName × ByteArray × Nat × Option FieldType := (yX3_bestToSend, cX3_bestToSend, 5, (some .int))
def jX3_fewestForAllDoors : MethodName × ByteArray × Nat × Option FieldType := (yX3_fewestForAllDoors, cX3_fewestForAllDoors, 6, (some .int))
def jX3_greatestStrength : MethodName × ByteArray × Nat × Option FieldType := (yX3_greatestStrength, cX3_greatestStrength, 8, (some .int))
def jX3_init : MethodName × ByteArray × Nat × Option FieldType := (yX3_init, cX3_init, 1, none)
def jX3_leastStrength : MethodName × ByteArray × Nat × Option FieldType := (yX3_leastStrength, cX3_leastStrength, 7, (some .int))
def jX3_leftAtWorst : MethodName × ByteArray × Nat × Option FieldType := (yX3_leftAtWorst, cX3_leftAtWorst, 4, (some .int))
def jX3_lessons : MethodName × ByteArray × Nat × Option FieldType := (yX3_lessons, cX3_lessons, 8, (some .int))
def jX3_mostLet : MethodName × ByteArray × Nat × Option FieldType := (yX3_mostLet, cX3_mostLet, 5, (some .int))
def jX3_openedBy : MethodName × ByteArray × Nat × Option FieldType := (yX3_openedBy, cX3_openedBy, 4, (some .int))
def jX3_possibleFears : MethodName × ByteArray × Nat × Option FieldType := (yX3_possibleFears, cX3_possibleFears, 5, (some .int))
def jX3_triesFit : MethodName × ByteArray × Nat × Option FieldType := (yX3_triesFit, cX3_triesFit, 4, (some .boolean))
def jX4_add : MethodName × ByteArray × Nat × Option FieldType := (yX4_add, cX4_add, 3, (some .int))
def jX4_anyHolds : MethodName × ByteArray × Nat × Option FieldType := (yX4_anyHolds, cX4_anyHolds, 3, (some .boolean))
def jX4_clear : MethodName × ByteArray × Nat × Option FieldType := (yX4_clear, cX4_clear, 1, none)
def jX4_endRule : MethodName × ByteArray × Nat × Option FieldType := (yX4_endRule, cX4_endRule, 1, none)
def jX4_init : MethodName × ByteArray × Nat × Option FieldType := (yX4_init, cX4_init, 1, none)
def jX4_joined : MethodName × ByteArray × Nat × Option FieldType := (yX4_joined, cX4_joined, 3, (some .int))
def jX4_leadHere : MethodName × ByteArray × Nat × Option FieldType := (yX4_leadHere, cX4_leadHere, 2, none)
def jX4_meanDoor : MethodName × ByteArray × Nat × Option FieldType := (yX4_meanDoor, cX4_meanDoor, 3, none)
def jX4_meanOther : MethodName × ByteArray × Nat × Option FieldType := (yX4_meanOther, cX4_meanOther, 4, none)
def jX4_meanPerson : MethodName × ByteArray × Nat × Option FieldType := (yX4_meanPerson, cX4_meanPerson, 4, none)
def jX4_meanTime : MethodName × ByteArray × Nat × Option FieldType := (yX4_meanTime, cX4_meanTime, 3, none)
def jX4_meaningOf : MethodName × ByteArray × Nat × Option FieldType := (yX4_meaningOf, cX4_meaningOf, 2, (some .int))
def jX4_pop : MethodName × ByteArray × Nat × Option FieldType := (yX4_pop, cX4_pop, 1, (some .int))
def jX4_push : MethodName × ByteArray × Nat × Option FieldType := (yX4_push, cX4_push, 2, none)
def jX4_reckon : MethodName × ByteArray × Nat × Option FieldType := (yX4_reckon, cX4_reckon, 6, (some .int))
def jX4_startCondition : MethodName × ByteArray × Nat × Option FieldType := (yX4_startCondition, cX4_startCondition, 1, none)
def jX4_startRule : MethodName × ByteArray × Nat × Option FieldType := (yX4_startRule, cX4_startRule, 2, none)
def jX4_worth : MethodName × ByteArray × Nat × Option FieldType := (yX4_worth, cX4_worth, 4, (some .int))
def jX5_init : MethodName × ByteArray × Nat × Option FieldType := (yX5_init, cX5_init, 3, none)
def jX5_joinsFactors : MethodName × ByteArray × Nat × Option FieldType := (yX5_joinsFactors, cX5_joinsFactors, 1, (some .boolean))
def jX5_open : MethodName × ByteArray × Nat × Option FieldType := (yX5_open, cX5_open, 2, (some .boolean))
def jX5_readAllOf : MethodName × ByteArray × Nat × Option FieldType := (yX5_readAllOf, cX5_readAllOf, 3, (some .boolean))
def jX5_readAnyOf : MethodName × ByteArray × Nat × Option FieldType := (yX5_readAnyOf, cX5_readAnyOf, 3, (some .boolean))
def jX5_readComparison : MethodName × ByteArray × Nat × Option FieldType := (yX5_readComparison, cX5_readComparison, 3, (some .boolean))
def jX5_readFactor : MethodName × ByteArray × Nat × Option FieldType := (yX5_readFactor, cX5_readFactor, 4, (some .boolean))
def jX5_readLine : MethodName × ByteArray × Nat × Option FieldType := (yX5_readLine, cX5_readLine, 2, (some .boolean))
def jX5_readNegation : MethodName × ByteArray × Nat × Option FieldType := (yX5_readNegation, cX5_readNegation, 2, (some .boolean))
def jX5_readProduct : MethodName × ByteArray × Nat × Option FieldType := (yX5_readProduct, cX5_readProduct, 3, (some .boolean))
def jX5_readSum : MethodName × ByteArray × Nat × Option FieldType := (yX5_readSum, cX5_readSum, 3, (some .boolean))
def jX5_readTest : MethodName × ByteArray × Nat × Option FieldType := (yX5_readTest, cX5_readTest, 3, (some .boolean))
def jX5_startsLine : MethodName × ByteArray × Nat × Option FieldType := (yX5_startsLine, cX5_startsLine, 2, (some .boolean))
def jX6_init : MethodName × ByteArray × Nat × Option FieldType := (yX6_init, cX6_init, 2, none)
def jX6_readLines : MethodName × ByteArray × Nat × Option FieldType := (yX6_readLines, cX6_readLines, 3, (some .int))
def jX7_catchDread : MethodName × ByteArray × Nat × Option FieldType := (yX7_catchDread, cX7_catchDread, 7, none)
def jX7_doorTried : MethodName × ByteArray × Nat × Option FieldType := (yX7_doorTried, cX7_doorTried, 7, (some .int))
def jX7_goOut : MethodName × ByteArray × Nat × Option FieldType := (yX7_goOut, cX7_goOut, 5, none)
def jX7_init : MethodName × ByteArray × Nat × Option FieldType := (yX7_init, cX7_init, 1, none)
def jX7_meanDoorFor : MethodName × ByteArray × Nat × Option FieldType := (yX7_meanDoorFor, cX7_meanDoorFor, 5, none)
def jX7_pass : MethodName × ByteArray × Nat × Option FieldType := (yX7_pass, cX7_pass, 6, none)
def jX7_spreadDread : MethodName × ByteArray × Nat × Option FieldType := (yX7_spreadDread, cX7_spreadDread, 5, none)
def jX7_tryDoor : MethodName × ByteArray × Nat × Option FieldType := (yX7_tryDoor, cX7_tryDoor, 8, none)
def jX8_init : MethodName × ByteArray × Nat × Option FieldType := (yX8_init, cX8_init, 3, none)
def jX8_readAcquaintance : MethodName × ByteArray × Nat × Option FieldType := (yX8_readAcquaintance, cX8_readAcquaintance, 5, (some .boolean))
def jX8_readDoor : MethodName × ByteArray × Nat × Option FieldType := (yX8_readDoor, cX8_readDoor, 3, (some .boolean))
def jX8_readLine : MethodName × ByteArray × Nat × Option FieldType := (yX8_readLine, cX8_readLine, 1, (some .boolean))
def jX8_readLock : MethodName × ByteArray × Nat × Option FieldType := (yX8_readLock, cX8_readLock, 4, (some .boolean))
def jX8_readPerson : MethodName × ByteArray × Nat × Option FieldType := (yX8_readPerson, cX8_readPerson, 3, (some .int))
def jX8_startsLine : MethodName × ByteArray × Nat × Option FieldType := (yX8_startsLine, cX8_startsLine, 2, (some .boolean))
def jX9_canStandTogether : MethodName × ByteArray × Nat × Option FieldType := (yX9_canStandTogether, cX9_canStandTogether, 3, (some .boolean))
def jX9_init : MethodName × ByteArray × Nat × Option FieldType := (yX9_init, cX9_init, 1, none)
def jX9_leastDreadBehindRooms : MethodName × ByteArray × Nat × Option FieldType := (yX9_leastDreadBehindRooms, cX9_leastDreadBehindRooms, 6, (some .int))
def jX9_roomsOfCommonest : MethodName × ByteArray × Nat × Option FieldType := (yX9_roomsOfCommonest, cX9_roomsOfCommonest, 6, (some .int))
def jX9_waysOn : MethodName × ByteArray × Nat × Option FieldType := (yX9_waysOn, cX9_waysOn, 7, (some .int))
def jX9_waysToStand : MethodName × ByteArray × Nat × Option FieldType := (yX9_waysToStand, cX9_waysToStand, 7, (some .int))
def jX9_wordsWeighing : MethodName × ByteArray × Nat × Option FieldType := (yX9_wordsWeighing, cX9_wordsWeighing, 6, (some .long))
def jX9_wordsWithOneMore : MethodName × ByteArray × Nat × Option FieldType := (yX9_wordsWithOneMore, cX9_wordsWithOneMore, 7, (some .long))
/-! ===== BEGIN new T[n][m]: the outer array a place, the inner ones among the pooled ===== -/
/-- f, but v at every address of l -/
def vr_up {α : Type} (f : Nat → α) (l : List Nat) (v : α) : Nat → α := fun a => if a ∈ l then v else f a
theorem vr_up_in {α : Type} {f : Nat → α} {l : List Nat} {v : α} {a : Nat} (h : a ∈ l) : vr_up f l v a = v := if_pos h
theorem vr_up_ne {α : Type} {f : Nat → α} {l : List Nat} {v : α} {a : Nat} (h : a ∉ l) : vr_up f l v a = f a := if_neg h
theorem vr_rows {L l : List Nat} {f : Nat → va_E} {e : va_E} (h : ∀ a, a ∈ l → a ∉ L) : va_pl L f ++ l.map (fun a => (a, e)) = va_pl (L ++ l) (vr_up f l e) := by
  unfold va_pl
  rw [List.map_append]
  congr 1
  · apply List.map_congr_left
    intro a ha
    rw [vr_up_ne (fun q => h a q ha)]
  · apply List.map_congr_left
    intro a ha
    rw [vr_up_in ha]
theorem vr_lay {X rows : va_W} {x : Nat × va_E} {pl : va_W} {D : va_G} {cl : List vw_C} {H : Heap} (hP : va_P D cl (((X ++ pl) ++ [x]) ++ rows) H) : va_P D cl ((X ++ [x]) ++ (pl ++ rows)) H := by
  rw [List.append_assoc (X ++ pl)] at hP
  have h := va_P.swap hP
  rw [← List.append_assoc X] at h
  have h2 := va_P.swap h
  rw [List.append_assoc (X ++ [x])] at h2
  exact h2
theorem vr_layD {X rows : va_W} {x : Nat × va_E} {pl : va_W} {A : Nat → Prop} (hD : va_D A (((X ++ pl) ++ [x]) ++ rows)) : va_D A ((X ++ [x]) ++ (pl ++ rows)) := by
  rw [List.append_assoc (X ++ pl)] at hD
  have h := va_D.swap hD
  rw [← List.append_assoc X] at h
  have h2 := va_D.swap h
  rw [List.append_assoc (X ++ [x])] at h2
  exact h2
theorem vr_outer (c : ClassId) (N h0 : Nat) : ∀ i : Nat, Jvm.Free.Multi.outerC c N h0 i = arrV c N (fun j => va_rf (if j < i then some (h0 + 1 + j) else none))
  | 0 => by
    show ({ cls := c, slots := Array.replicate N .null, vm := .none } : Cell) = _
    rw [arrV_new]
    refine congrArg (arrV c N) (funext fun j => ?_)
    simp [va_rf]
  | i + 1 => by
    show (Jvm.Free.Multi.outerC c N h0 i).setSlot i (.ref (h0 + 1 + i)) = _
    rw [vr_outer c N h0 i, arrV_store]
    refine congrArg (arrV c N) (funext fun j => ?_)
    by_cases e : j = i
    · subst e
      simp [updV, va_rf]
    · by_cases h : j < i
      · simp [updV, e, h, Nat.lt_succ_of_lt h]
      · simp [updV, e, h, show ¬ j < i + 1 by omega]
section VGM
variable {p : Program} {l : Launch} {e : Env} {R : Room} {s : State} {m : MethodId} {args : Array Value} {below : List Frame} {meth : Method} {c : Code} {H : Heap} {locs : List Loc} {cells slots : Nat} {Q : State → Prop}
variable {cc : ByteArray} {pc : Nat} {ls : Array Slot} {rest : List Value} {D : va_G} {cl : List vw_C} {A : Nat → Prop} {a : Nat} {tys : List (ClassId × FieldType)} {ws : va_W} {H0 : Heap}
theorem va_mna {X : va_W} {L : List Nat} {f : Nat → va_E} {cc : ByteArray} (hexec : p.tables.exec = Jvm.exec) (hb : c.code = cc) {own : String} {index : Nat} {ty : FieldType} {cy : ClassId} (hown : s.vm.findClass own = some m.cls) (hclink : (Cond.classLink own index ("[" ++ (FieldType.array ty).toString)).before args s = true) (hover : (Cond.arrayOver (.array ty)).before args s = true) (harr : (Cond.arrayClass ty).before args s = true) (hcy : s.vm.findClass (FieldType.array ty).toString = some cy)
    (hK : va_K D cl tys s) (hP : va_P D cl (X ++ va_pl L f) H) (hD : va_D A (X ++ va_pl L f)) (hS : va_S A H0 H locs) (hA : ∀ q, H0.size ≤ q → A q) {n k : Int32} {N' K' : Nat} {z : vp_A} (hn : ¬ n < 0) (hk : ¬ k < 0) (hN : n.toNatClampNeg = N') (hM : k.toNatClampNeg = K')
    (hb1 : N' * 4 ≤ 536870912) (hb2 : K' * componentBytes ty ≤ 536870912) (hb3 : K' ≤ 536870912) (hdf : fits ty (defaultValue ty) = true) (hdd : (defaultValue ty).isDefault = true) (hcells : cells + (1 + N') ≤ R.cells) (hslots : slots + (N' + N' * K') ≤ R.slots) (hz : ∀ c : ClassId, Jvm.Free.Multi.innerC c K' (defaultValue ty) = vp_cell c z) (hdg : decode cc pc = .ok (.multianewarray index 2, 4))
    (kk : ∀ (q : Nat) (r : Nat → Nat) (cA : ClassId) (H1 : Heap), (∀ i j : Nat, i < N' → j < N' → r i = r j → i = j) → (∀ i : Nat, i < N' → r i ∉ L) → va_K D cl (tys ++ [(cA, .array ty)]) s →
      va_P D cl ((X ++ [(q, .inl (cA, N', .inr (.inr (.inr (.inr (fun i => if i < N' then some (r i) else none))))))]) ++ va_pl (L ++ (List.range N').map r) (vr_up f ((List.range N').map r) (.inl (cy, z)))) H1 → va_D A ((X ++ [(q, .inl (cA, N', .inr (.inr (.inr (.inr (fun i => if i < N' then some (r i) else none))))))]) ++ va_pl (L ++ (List.range N').map r) (vr_up f ((List.range N').map r) (.inl (cy, z)))) → va_S A H0 H1 locs →
      W p l e R s m args below meth c H1 locs (cells + 1 + N') (slots + N' + N' * K') Q (F0 m (pc + 4) ls (.ref q :: rest))) : W p l e R s m args below meth c H locs cells slots Q (F0 m pc ls (.int k :: .int n :: rest)) := by
  subst hN
  subst hM
  intro T hT Xs
  obtain ⟨vm₁, cA, comp, -, fA, fC, hO, -, X', step⟩ := Xs.multianewarray2F hexec hown hclink hover harr (g := F0 m pc ls (.int k :: .int n :: rest)) rfl (by rw [hb]; exact hdg) rfl hn hk hb1 hb2 hb3 hdf hdd hcells hslots
  have ec : some cy = some comp := hcy.symm.trans fC
  cases ec
  generalize hF : Jvm.Free.Multi.fill (T.setVm vm₁) cA cy n.toNatClampNeg k.toNatClampNeg (defaultValue ty) n.toNatClampNeg = F at X' step
  have hTh : (T.setVm vm₁).heap = H := hT
  obtain ⟨f1, f2, -, -⟩ := Jvm.Free.Multi.fill_facts (T.setVm vm₁) cA cy n.toNatClampNeg k.toNatClampNeg (defaultValue ty) n.toNatClampNeg
  rw [hF, hTh] at f1 f2
  have hold : ∀ x : Nat, x < H.size → F.heap[x]? = H[x]? := fun x hx => by
    have := Jvm.Free.Multi.fill_old (T.setVm vm₁) cA cy n.toNatClampNeg k.toNatClampNeg (defaultValue ty) (a := x) (by rw [hTh]; exact hx) n.toNatClampNeg
    rw [hF, hTh] at this
    exact this
  have hrow : ∀ j : Nat, j < n.toNatClampNeg → F.heap[H.size + 1 + j]? = some (vp_cell cy z) := fun j hj => by
    have := Jvm.Free.Multi.fill_inner (T.setVm vm₁) cA cy n.toNatClampNeg k.toNatClampNeg (defaultValue ty) n.toNatClampNeg j hj
    rw [hF, hTh, hz] at this
    exact this
  have hout : Jvm.Free.Multi.outerC cA n.toNatClampNeg H.size n.toNatClampNeg = vp_cell cA (n.toNatClampNeg, .inr (.inr (.inr (.inr (fun i => if i < n.toNatClampNeg then some (H.size + 1 + i) else none))))) := by
    rw [vp_cell_q]
    exact vr_outer cA n.toNatClampNeg H.size n.toNatClampNeg
  rw [hout] at f2
  have hlt : ∀ a, a ∈ L → a < H.size := fun a ha => by
    obtain ⟨k9, hk9⟩ := va_pl_get (X := X) (f := f) ha
    exact (hP k9 _ hk9).lt
  have hnl : ∀ i : Nat, i < n.toNatClampNeg → H.size + 1 + i ∉ L := fun i _ h => by
    have := hlt _ h
    omega
  have hnm : ∀ a, a ∈ (List.range n.toNatClampNeg).map (fun i => H.size + 1 + i) → a ∉ L := fun a ha h => by
    obtain ⟨i, -, rfl⟩ := List.mem_map.mp ha
    have := hlt _ h
    omega
  have hP0 : va_P D cl (X ++ va_pl L f) F.heap := hP.kept (fun k9 x hx => hold x.1 ((hP k9 x hx).lt))
  have hP1 : va_P D cl ((X ++ va_pl L f) ++ [(H.size, .inl (cA, n.toNatClampNeg, .inr (.inr (.inr (.inr (fun i => if i < n.toNatClampNeg then some (H.size + 1 + i) else none))))))]) F.heap := hP0.app (fun k9 x hx => by
    have h0 : k9 < 1 := (List.getElem?_eq_some_iff.mp hx).1
    rw [show k9 = 0 by omega] at hx
    cases hx
    exact f2)
  have hP2 : va_P D cl (((X ++ va_pl L f) ++ [(H.size, .inl (cA, n.toNatClampNeg, .inr (.inr (.inr (.inr (fun i => if i < n.toNatClampNeg then some (H.size + 1 + i) else none))))))]) ++ ((List.range n.toNatClampNeg).map (fun i => H.size + 1 + i)).map (fun a => (a, .inl (cy, z)))) F.heap := hP1.app (fun k9 x hx => by
    obtain ⟨a, ha, rfl⟩ := List.mem_map.mp (List.mem_of_getElem? hx)
    obtain ⟨i, hi, rfl⟩ := List.mem_map.mp ha
    exact hrow i (List.mem_range.mp hi))
  have hD2 : va_D A (((X ++ va_pl L f) ++ [(H.size, .inl (cA, n.toNatClampNeg, .inr (.inr (.inr (.inr (fun i => if i < n.toNatClampNeg then some (H.size + 1 + i) else none))))))]) ++ ((List.range n.toNatClampNeg).map (fun i => H.size + 1 + i)).map (fun a => (a, .inl (cy, z)))) := by
    have hD1 := hD.push (e := .inl (cA, n.toNatClampNeg, .inr (.inr (.inr (.inr (fun i => if i < n.toNatClampNeg then some (H.size + 1 + i) else none)))))) hP rfl (hA _ hS.1)
    generalize hW1 : (X ++ va_pl L f) ++ [(H.size, .inl (cA, n.toNatClampNeg, .inr (.inr (.inr (.inr (fun i => if i < n.toNatClampNeg then some (H.size + 1 + i) else none))))))] = W1 at hD1 hP1 ⊢
    have hle : ∀ (k9 : Nat) (x : Nat × va_E), W1[k9]? = some x → x.1 ≤ H.size := fun k9 x hx => by
      rw [← hW1] at hx
      by_cases hl : k9 < (X ++ va_pl L f).length
      · rw [List.getElem?_append_left hl] at hx
        exact Nat.le_of_lt ((hP k9 x hx).lt)
      · rw [List.getElem?_append_right (by omega)] at hx
        have h0 : k9 - (X ++ va_pl L f).length < 1 := (List.getElem?_eq_some_iff.mp hx).1
        rw [show k9 - (X ++ va_pl L f).length = 0 by omega] at hx
        cases hx
        exact Nat.le_refl _
    have hr : ∀ (k9 : Nat) (x : Nat × va_E), (((List.range n.toNatClampNeg).map (fun i => H.size + 1 + i)).map (fun a => ((a, .inl (cy, z)) : Nat × va_E)))[k9]? = some x → x.1 = H.size + 1 + k9 := fun k9 x hx => by
      rw [List.getElem?_map, List.getElem?_map] at hx
      by_cases h9 : k9 < n.toNatClampNeg
      · rw [List.getElem?_range h9] at hx
        cases hx
        rfl
      · have hn0 : (List.range n.toNatClampNeg)[k9]? = none := List.getElem?_eq_none (by rw [List.length_range]; omega)
        rw [hn0] at hx
        cases hx
    refine ⟨fun i j x y hi hj hxy => ?_, fun k9 x hx => ?_⟩
    · by_cases h1 : i < W1.length <;> by_cases h2 : j < W1.length
      · rw [List.getElem?_append_left h1] at hi
        rw [List.getElem?_append_left h2] at hj
        exact hD1.1 i j x y hi hj hxy
      · rw [List.getElem?_append_left h1] at hi
        rw [List.getElem?_append_right (by omega)] at hj
        have := hle _ _ hi
        have := hr _ _ hj
        omega
      · rw [List.getElem?_append_right (by omega)] at hi
        rw [List.getElem?_append_left h2] at hj
        have := hle _ _ hj
        have := hr _ _ hi
        omega
      · rw [List.getElem?_append_right (by omega)] at hi hj
        have := hr _ _ hi
        have := hr _ _ hj
        omega
    · by_cases h1 : k9 < W1.length
      · rw [List.getElem?_append_left h1] at hx
        exact hD1.2 k9 x hx
      · rw [List.getElem?_append_right (by omega)] at hx
        have := hr _ _ hx
        exact hA _ (by have := hS.1; omega)
  have hAr : ArrOfT s cA (.array ty) := fun N9 z9 => by
    obtain ⟨-, k9, hk9, cm9, hkk9⟩ := (hO 0 0 0).1
    exact ⟨(fun q hq => by cases hq), k9, hk9, cm9, hkk9⟩
  have hK2 : va_K D cl (tys ++ [(cA, .array ty)]) s := ⟨hK.1, fun k9 x hx => by
    by_cases hl : k9 < tys.length
    · rw [List.getElem?_append_left hl] at hx
      exact hK.2 k9 x hx
    · rw [List.getElem?_append_right (by omega)] at hx
      have h0 : k9 - tys.length < 1 := (List.getElem?_eq_some_iff.mp hx).1
      rw [show k9 - tys.length = 0 by omega] at hx
      cases hx
      exact ⟨hAr, fA⟩⟩
  obtain ⟨t, a1, b1⟩ := kk H.size (fun i => H.size + 1 + i) cA F.heap (fun i j _ _ h => by have h9 : H.size + 1 + i = H.size + 1 + j := h; omega) hnl hK2 (by rw [← vr_rows hnm]; exact vr_lay hP2) (by rw [← vr_rows hnm]; exact vr_layD hD2) ⟨by rw [f1]; have := hS.1; omega, fun x h1 h2 => (hold x (Nat.lt_of_lt_of_le h1 hS.1)).trans (hS.2.1 x h1 h2), hS.2.2⟩ F rfl X'
  refine ⟨t, step t ?_, b1⟩
  have e : T.heap.size = H.size := by rw [hT]
  rw [e]
  exact a1
end VGM
/-! ===== END ===== -/
end
section
def fx_nest : Cond → Bool
  | .fieldLinkNest .. => true
  | .methodLinkNest .. => true
  | .arrayOver .. => true
  | _ => false
def fx_NW : List Cond := lw_tbl.filter fx_nest
def fx_NS (U : State) : Prop := ∀ w ∈ fx_NW, va_Nw w U
theorem fx_NS.warm {s U : State} (hW : s.WarmedH U.vm) (h : fx_NS s) : fx_NS U := by
  intro w hw
  have hn := (List.mem_filter.mp hw).2
  have h1 := h w hw
  cases w <;> first | (simp [fx_nest] at hn; done) | exact va_Nw.warmF hW h1 | exact va_Nw.warmM hW h1 | exact (Cond.arrayOver_setVmC (args := #[]) (s := s) hW.alike _).trans h1
theorem fx_NS.same {u U : State} (hv : u.vm = U.vm) (h : fx_NS u) : fx_NS U := by
  intro w hw
  have hn := (List.mem_filter.mp hw).2
  have h1 := h w hw
  cases w <;> first | (simp [fx_nest] at hn; done) | exact va_Nw.same rfl hv h1 | exact (Cond.arrayOver_setVmC (args := #[]) (s := u) (vm' := U.vm) (by rw [← hv]; exact Vm.Alike.refl u.vm) _).trans h1
theorem fx_NS.use {w : Cond} {U : State} {A : Array Value} (h : fx_NS U) (hw : w ∈ fx_NW) : w.before A U = true := by
  have hn := (List.mem_filter.mp hw).2
  have h1 := h w hw
  cases w <;> first | (simp [fx_nest] at hn; done) | exact va_Nw.use rfl h1 | exact h1
theorem fx_NS.of {U : State} {A : Array Value} (h : ∀ w ∈ lw_tbl, w.before A U = true) : fx_NS U := by
  intro w hw
  obtain ⟨hm, hn⟩ := List.mem_filter.mp hw
  have h1 := h w hm
  cases w <;> first | (simp [fx_nest] at hn; done) | exact va_Nw.of rfl h1 | exact h1
theorem fx_k1 {w : Cond} (h : w ∈ tables_1_1) : w ∈ lw_tbl := (List.mem_append_right _ (List.mem_append_left _ h))
theorem fx_m1 {w : Cond} (j : Nat) (h : tables_1_1[j]? = some w) (g : goodWord w = true) : w ∈ fx_TB := List.mem_filter.mpr ⟨fx_k1 (List.mem_of_getElem? h), g⟩
theorem fx_n1 {w : Cond} (j : Nat) (h : tables_1_1[j]? = some w) (g : fx_nest w = true) : w ∈ fx_NW := List.mem_filter.mpr ⟨fx_k1 (List.mem_of_getElem? h), g⟩
theorem fx_k2 {w : Cond} (h : w ∈ tables_1_2) : w ∈ lw_tbl := (List.mem_append_right _ (List.mem_append_right _ (List.mem_append_left _ h)))
theorem fx_m2 {w : Cond} (j : Nat) (h : tables_1_2[j]? = some w) (g : goodWord w = true) : w ∈ fx_TB := List.mem_filter.mpr ⟨fx_k2 (List.mem_of_getElem? h), g⟩
theorem fx_n2 {w : Cond} (j : Nat) (h : tables_1_2[j]? = some w) (g : fx_nest w = true) : w ∈ fx_NW := List.mem_filter.mpr ⟨fx_k2 (List.mem_of_getElem? h), g⟩
theorem fx_k3 {w : Cond} (h : w ∈ tables_1_3) : w ∈ lw_tbl := (List.mem_append_right _ (List.mem_append_right _ (List.mem_append_right _ (List.mem_append_left _ h))))
theorem fx_m3 {w : Cond} (j : Nat) (h : tables_1_3[j]? = some w) (g : goodWord w = true) : w ∈ fx_TB := List.mem_filter.mpr ⟨fx_k3 (List.mem_of_getElem? h), g⟩
theorem fx_n3 {w : Cond} (j : Nat) (h : tables_1_3[j]? = some w) (g : fx_nest w = true) : w ∈ fx_NW := List.mem_filter.mpr ⟨fx_k3 (List.mem_of_getElem? h), g⟩
theorem fx_k4 {w : Cond} (h : w ∈ tables_1_4) : w ∈ lw_tbl := (List.mem_append_right _ (List.mem_append_right _ (List.mem_append_right _ (List.mem_append_right _ (List.mem_append_left _ h)))))
theorem fx_m4 {w : Cond} (j : Nat) (h : tables_1_4[j]? = some w) (g : goodWord w = true) : w ∈ fx_TB := List.mem_filter.mpr ⟨fx_k4 (List.mem_of_getElem? h), g⟩
theorem fx_n4 {w : Cond} (j : Nat) (h : tables_1_4[j]? = some w) (g : fx_nest w = true) : w ∈ fx_NW := List.mem_filter.mpr ⟨fx_k4 (List.mem_of_getElem? h), g⟩
theorem fx_k5 {w : Cond} (h : w ∈ tables_1_5) : w ∈ lw_tbl := (List.mem_append_right _ (List.mem_append_right _ (List.mem_append_right _ (List.mem_append_right _ (List.mem_append_right _ (List.mem_append_left _ h))))))
theorem fx_m5 {w : Cond} (j : Nat) (h : tables_1_5[j]? = some w) (g : goodWord w = true) : w ∈ fx_TB := List.mem_filter.mpr ⟨fx_k5 (List.mem_of_getElem? h), g⟩
theorem fx_n5 {w : Cond} (j : Nat) (h : tables_1_5[j]? = some w) (g : fx_nest w = true) : w ∈ fx_NW := List.mem_filter.mpr ⟨fx_k5 (List.mem_of_getElem? h), g⟩
theorem fx_k6 {w : Cond} (h : w ∈ tables_1_6) : w ∈ lw_tbl := (List.mem_append_right _ (List.mem_append_right _ (List.mem_append_right _ (List.mem_append_right _ (List.mem_append_right _ (List.mem_append_right _ (List.mem_append_left _ h)))))))
theorem fx_m6 {w : Cond} (j : Nat) (h : tables_1_6[j]? = some w) (g : goodWord w = true) : w ∈ fx_TB := List.mem_filter.mpr ⟨fx_k6 (List.mem_of_getElem? h), g⟩
theorem fx_n6 {w : Cond} (j : Nat) (h : tables_1_6[j]? = some w) (g : fx_nest w = true) : w ∈ fx_NW := List.mem_filter.mpr ⟨fx_k6 (List.mem_of_getElem? h), g⟩
theorem fx_k7 {w : Cond} (h : w ∈ tables_1_7) : w ∈ lw_tbl := (List.mem_append_right _ (List.mem_append_right _ (List.mem_append_right _ (List.mem_append_right _ (List.mem_append_right _ (List.mem_append_right _ (List.mem_append_right _ h)))))))
theorem fx_m7 {w : Cond} (j : Nat) (h : tables_1_7[j]? = some w) (g : goodWord w = true) : w ∈ fx_TB := List.mem_filter.mpr ⟨fx_k7 (List.mem_of_getElem? h), g⟩
theorem fx_n7 {w : Cond} (j : Nat) (h : tables_1_7[j]? = some w) (g : fx_nest w = true) : w ∈ fx_NW := List.mem_filter.mpr ⟨fx_k7 (List.mem_of_getElem? h), g⟩
end
section
/-! A layer over the kit's rows: the world is a partial map from addresses to cells (Wd), handed whole to every call; locals are a list; MW is a method's contract, AW a place in its walk. -/
abbrev Md : Type := MethodName × ByteArray × Nat × Option FieldType
abbrev Wd : Type := Nat → va_E
abbrev Sc : Type := Option (Nat × Nat × (Nat → Int32))
abbrev cI (D : va_G) (n : Nat) (g : Nat → Int32) : va_E := .inl (D.1 100, n, .inl g)
abbrev cJ (D : va_G) (n : Nat) (g : Nat → Int64) : va_E := .inl (D.1 101, n, .inr (.inl g))
abbrev cB (D : va_G) (n : Nat) (g : Nat → Int32) : va_E := .inl (D.1 102, n, .inl g)
abbrev cZ (D : va_G) (n : Nat) (g : Nat → Int32) : va_E := .inl (D.1 103, n, .inl g)
abbrev cR (D : va_G) (n : Nat) (g : Nat → Option Nat) : va_E := .inl (D.1 104, n, .inr (.inr (.inr (.inr g))))
abbrev cO (ci : Nat) (fs : List Value) : va_E := .inr (ci, fs)
def fx_ty (D : va_G) : List (ClassId × FieldType) := [(D.1 100, .int), (D.1 101, .long), (D.1 102, .byte), (D.1 103, .boolean), (D.1 104, .array .int)]
/-- the world: N cells from b on, and they are all that lies there -/
def VA (D : va_G) (b N : Nat) (V : Wd) (H : Heap) : Prop := H.size = b + N ∧ ∀ i, i < N → va_at D vwCl (b + i, V i) H
theorem va_one {D : va_G} {b N i : Nat} {V : Wd} {H : Heap} {e : va_E} (h : VA D b N V H) (hi : i < N) (he : V i = e) : va_P D vwCl [(b + i, e)] H := by
  intro j q hj
  match j, hj with
  | 0, hj => cases hj; rw [← he]; exact h.2 i hi
  | j + 1, hj => simp at hj
theorem VA.set {D : va_G} {b N i : Nat} {V : Wd} {H H1 : Heap} {e : va_E} (h : VA D b N V H) (he : va_at D vwCl (b + i, e) H1) (z : H1.size = H.size) (oq : ∀ q : Nat, q ≠ b + i → H1[q]? = H[q]?) : VA D b N (va_up V i e) H1 := by
  refine ⟨z.trans h.1, fun j hj => ?_⟩
  by_cases e1 : j = i
  · subst e1; rw [va_up_self]; exact he
  · rw [va_up_ne _ _ e1]
    exact (h.2 j hj).kept (oq (b + j) (by omega))
theorem VA.push {D : va_G} {b N : Nat} {V : Wd} {H H1 : Heap} {e : va_E} (h : VA D b N V H) (he : va_at D vwCl (b + N, e) H1) (z : H1.size = H.size + 1) (oq : ∀ q : Nat, q < H.size → H1[q]? = H[q]?) : VA D b (N + 1) (va_up V N e) H1 := by
  have h1 := h.1
  refine ⟨by omega, fun j hj => ?_⟩
  by_cases e1 : j = N
  · subst e1; rw [va_up_self]; exact he
  · rw [va_up_ne _ _ e1]
    exact (h.2 j (by omega)).kept (oq (b + j) (by show b + j < _; omega))
/-! locals -/
def fx_L (arr : Array Slot) (nL : Nat) (ls : List (Option Value)) : Prop := arr.size = nL ∧ lv_wf arr ∧ ∀ (i : Nat) (v : Value), ls[i]? = some (some v) → arr[i]? = some (.val v)
def fx_as (ls : List (Option Value)) : List (Nat × Value) := (List.range ls.length).filterMap (fun i => (ls[i]?.getD none).map (fun v => (i, v)))
theorem fx_as_mem {ls : List (Option Value)} {q : Nat × Value} : q ∈ fx_as ls ↔ ls[q.1]? = some (some q.2) := by
  unfold fx_as
  rw [List.mem_filterMap]
  constructor
  · rintro ⟨i, hi, h⟩
    cases hx : ls[i]? with
    | none => simp [hx] at h
    | some o =>
      cases o with
      | none => simp [hx] at h
      | some v =>
        simp [hx] at h
        subst h
        exact hx
  · intro h
    refine ⟨q.1, List.mem_range.mpr (List.getElem?_eq_some_iff.mp h).1, ?_⟩
    simp [h]
theorem fx_L.has {arr : Array Slot} {nL : Nat} {ls : List (Option Value)} (h : fx_L arr nL ls) : lv_has arr nL (fx_as ls) := ⟨h.1, h.2.1, fun q hq => h.2.2 q.1 q.2 (fx_as_mem.mp hq)⟩
def fx_kill (ls : List (Option Value)) (i : Nat) : List (Option Value) := match i with
  | 0 => ls
  | j + 1 => match ls[j]? with
    | some (some (.long _)) => ls.set j none
    | some (some (.double _)) => ls.set j none
    | _ => ls
def fx_s1 (ls : List (Option Value)) (i : Nat) (v : Value) : List (Option Value) := (fx_kill ls i).set i (some v)
def fx_s2 (ls : List (Option Value)) (i : Nat) (v : Value) : List (Option Value) := ((fx_kill ls i).set i (some v)).set (i + 1) none
theorem fx_kill_get {ls : List (Option Value)} {i j : Nat} {v : Value} (h : (fx_kill ls i)[j]? = some (some v)) : ls[j]? = some (some v) ∧ ¬ (j + 1 = i ∧ v.category = 2) := by
  unfold fx_kill at h
  cases i with
  | zero => exact ⟨h, fun q => by omega⟩
  | succ i =>
    have key : ∀ (ls' : List (Option Value)), ls' = ls.set i none → ls'[j]? = some (some v) → ls[j]? = some (some v) ∧ ¬ (j + 1 = i + 1 ∧ v.category = 2) := by
      intro ls' e h'
      subst e
      by_cases hj : j = i
      · subst hj
        rw [List.getElem?_set] at h'
        split at h'
        · split at h' <;> cases h'
        · exact absurd rfl ‹_›
      · rw [List.getElem?_set_ne (Ne.symm hj)] at h'
        exact ⟨h', fun q => hj (by omega)⟩
    dsimp only at h
    cases hx : ls[i]? with
    | none =>
      rw [hx] at h
      refine ⟨h, fun q => ?_⟩
      have : j = i := by omega
      subst this
      dsimp only at h
      rw [hx] at h; cases h
    | some o =>
      rw [hx] at h
      cases o with
      | none =>
        dsimp only at h
        refine ⟨h, fun q => ?_⟩
        have : j = i := by omega
        subst this
        rw [hx] at h; cases h
      | some w =>
        cases w with
        | long x => exact key _ rfl h
        | double x => exact key _ rfl h
        | _ =>
          dsimp only at h
          refine ⟨h, fun q => ?_⟩
          have : j = i := by omega
          subst this
          rw [hx] at h
          cases h
          exact absurd q.2 (by simp [Value.category])
theorem fx_s1_of {arr : Array Slot} {nL i : Nat} {ls : List (Option Value)} {v : Value} (h : lv_has arr nL ((i, v) :: (fx_as ls).filter (fun q => !(q.1 == i) && !(q.1 + 1 == i && q.2.category == 2)))) : fx_L arr nL (fx_s1 ls i v) := by
  refine ⟨h.1, h.2.1, fun j w hj => ?_⟩
  unfold fx_s1 at hj
  by_cases e : j = i
  · subst e
    rw [List.getElem?_set] at hj
    split at hj
    · split at hj
      · cases hj; exact h.2.2 (j, _) List.mem_cons_self
      · cases hj
    · exact absurd rfl ‹_›
  · rw [List.getElem?_set_ne (Ne.symm e)] at hj
    obtain ⟨h1, h2⟩ := fx_kill_get hj
    refine h.2.2 (j, w) (List.mem_cons_of_mem _ (List.mem_filter.mpr ⟨fx_as_mem.mpr h1, ?_⟩))
    simp only [Bool.and_eq_true, Bool.not_eq_true', beq_eq_false_iff_ne, ne_eq, Bool.and_eq_false_iff]
    refine ⟨e, ?_⟩
    by_cases e1 : j + 1 = i
    · exact Or.inr (fun e2 => h2 ⟨e1, e2⟩)
    · exact Or.inl e1
theorem fx_s2_of {arr : Array Slot} {nL i : Nat} {ls : List (Option Value)} {v : Value} (h : lv_has arr nL ((i, v) :: (fx_as ls).filter (fun q => !(q.1 == i) && (!(q.1 == i + 1) && !(q.1 + 1 == i && q.2.category == 2))))) : fx_L arr nL (fx_s2 ls i v) := by
  refine ⟨h.1, h.2.1, fun j w hj => ?_⟩
  unfold fx_s2 at hj
  by_cases e0 : j = i + 1
  · subst e0
    rw [List.getElem?_set] at hj
    split at hj
    · split at hj <;> cases hj
    · exact absurd rfl ‹_›
  rw [List.getElem?_set_ne (Ne.symm e0)] at hj
  by_cases e : j = i
  · subst e
    rw [List.getElem?_set] at hj
    split at hj
    · split at hj
      · cases hj; exact h.2.2 (j, _) List.mem_cons_self
      · cases hj
    · exact absurd rfl ‹_›
  · rw [List.getElem?_set_ne (Ne.symm e)] at hj
    obtain ⟨h1, h2⟩ := fx_kill_get hj
    refine h.2.2 (j, w) (List.mem_cons_of_mem _ (List.mem_filter.mpr ⟨fx_as_mem.mpr h1, ?_⟩))
    simp only [Bool.and_eq_true, Bool.not_eq_true', beq_eq_false_iff_ne, ne_eq, Bool.and_eq_false_iff]
    refine ⟨e, e0, ?_⟩
    by_cases e1 : j + 1 = i
    · exact Or.inr (fun e2 => h2 ⟨e1, e2⟩)
    · exact Or.inl e1
def fx_le : List (Option Value) → List (Option Value) → Prop
  | [], _ => True
  | none :: a, _ :: b => fx_le a b
  | some v :: a, some w :: b => v = w ∧ fx_le a b
  | _, _ => False
theorem fx_le_get : ∀ {a b : List (Option Value)}, fx_le a b → ∀ (i : Nat) (v : Value), a[i]? = some (some v) → b[i]? = some (some v)
  | [], _, _, i, v, h => by simp at h
  | none :: a, [], h, i, v, hv => by simp [fx_le] at h
  | none :: a, w :: b, h, 0, v, hv => by simp at hv
  | none :: a, w :: b, h, i + 1, v, hv => by
    simp only [fx_le] at h
    simp only [List.getElem?_cons_succ] at hv ⊢
    exact fx_le_get h i v hv
  | some u :: a, [], h, i, v, hv => by simp [fx_le] at h
  | some u :: a, none :: b, h, i, v, hv => by simp [fx_le] at h
  | some u :: a, some w :: b, h, 0, v, hv => by
    simp only [fx_le] at h
    simp only [List.getElem?_cons_zero] at hv ⊢
    rw [← h.1]; exact hv
  | some u :: a, some w :: b, h, i + 1, v, hv => by
    simp only [fx_le] at h
    simp only [List.getElem?_cons_succ] at hv ⊢
    exact fx_le_get h.2 i v hv
/-! contracts and places -/
def fx_ws (J : Md) : List Cond := Cond.code J.1 J.2.1 J.2.2.1 J.2.2.2 :: fx_TB
def fx_rm (d mc ms : Nat) : Room := { frames := d + 1, cells := mc, slots := ms, locals := 64 * (d + 1) }
def fx_P (D : va_G) (b : Nat) (av : List Value) (N : Nat) (V : Wd) : Array Value → State → Prop := va_Pc av (fun U => va_K D vwCl (fx_ty D) U ∧ VA D b N V U.heap ∧ fx_NS U)
def fx_Q (D : va_G) (b : Nat) (Q : Option Value → Nat → Wd → Prop) : Array Value → State → Outcome → State → Prop := fun _ st oc t => (∃ (r : Option Value) (N' : Nat) (V' : Wd), oc = .returned r ∧ Q r N' V' ∧ VA D b N' V' t.heap) ∧ va_F (fun q => b ≤ q) st t
def MW (l : Launch) (D : va_G) (b d : Nat) (J : Md) (av : List Value) (N : Nat) (V : Wd) (mc ms : Nat) (Q : Option Value → Nat → Wd → Prop) : Prop := Met l J.1 (fx_ws J) (fx_rm d mc ms) (fx_P D b av N V) (fx_Q D b Q) mc ms (fun q => b ≤ q)
def fx_C (D : va_G) (b : Nat) (J : Md) (X : Sc) (p : Program) (s : State) (m : MethodId) (args : Array Value) (meth : Method) (c : Code) : Prop :=
  p.tables.exec = Jvm.exec ∧ c.code = J.2.1 ∧ meth.sig.returnType = J.2.2.2 ∧ c.maxLocals = J.2.2.1 ∧ s.vm.findClass J.1.cls = some m.cls ∧ (∀ w ∈ fx_ws J, w.before args s = true) ∧ meth.locks = false ∧ meth.name = J.1.name ∧ va_K D vwCl (fx_ty D) s ∧ b ≤ s.heap.size ∧ (∀ b9 L xs, X = some (b9, L, xs) → va_X b9 L xs s s.heap ∧ b9 < s.heap.size ∧ ¬ b ≤ b9) ∧ fx_NS s
def AW (l : Launch) (D : va_G) (b : Nat) (J : Md) (R : Room) (X : Sc) (FQ : Array Value → List Frame → State → State → Prop) (pc : Nat) (ls : List (Option Value)) (st : List Value) (N : Nat) (V : Wd) (k n : Nat) : Prop :=
  ∀ (p : Program) (e : Env) (s : State) (m : MethodId) (args : Array Value) (below : List Frame) (meth : Method) (c : Code) (H : Heap) (locs : List Loc) (arr : Array Slot), fx_C D b J X p s m args meth c → fx_L arr J.2.2.1 ls → VA D b N V H → va_S (fun q => b ≤ q) s.heap H locs → Jvm.Pilot.@@N@@.W p l e R s m args below meth c H locs k n (FQ args below s) (F0 m pc arr st)
def fx_MQ (D : va_G) (b mc ms : Nat) (Q : Option Value → Nat → Wd → Prop) : Array Value → List Frame → State → State → Prop := fun args below s => MQ below (fx_Q D b Q) args s mc ms (fun q => b ≤ q)
theorem fx_hA {b : Nat} {s : State} (h : b ≤ s.heap.size) : ∀ q, s.heap.size ≤ q → b ≤ q := fun q hq => Nat.le_trans h hq
theorem fx_ents {av : List Value} (h1 : ∀ v ∈ av, v.category = 1) : ∀ (i : Nat) (v : Value), av[i]? = some v → ∀ k, (k + i, v) ∈ lv_args k av := by
  induction av with
  | nil => intro i v h; simp at h
  | cons a av ih =>
    intro i v h k
    have ha : ¬ a.category = 2 := by have := h1 a List.mem_cons_self; omega
    cases i with
    | zero => simp at h; subst h; simp [lv_args]
    | succ i =>
      simp only [List.getElem?_cons_succ] at h
      have := ih (fun v hv => h1 v (List.mem_cons_of_mem _ hv)) i v h (k + 1)
      simp only [lv_args, if_neg ha]
      refine List.mem_cons_of_mem _ ?_
      rw [show k + (i + 1) = k + 1 + i by omega]; exact this
theorem fx_sl1 {av : List Value} (h1 : ∀ v ∈ av, v.category = 1) : (lg_sl av).length = av.length := by
  induction av with
  | nil => rfl
  | cons a av ih =>
    have ha : ¬ a.category = 2 := by have := h1 a List.mem_cons_self; omega
    have := ih (fun v hv => h1 v (List.mem_cons_of_mem _ hv))
    unfold lg_sl at this ⊢
    rw [List.flatMap_cons, if_neg ha]
    simp [this]
def fx_ent (av : List Value) (n : Nat) : List (Option Value) := av.map some ++ List.replicate (n - av.length) none
theorem mw_of {l : Launch} {D : va_G} {b d : Nat} {J : Md} {av : List Value} {N : Nat} {V : Wd} {mc ms : Nat} {Q : Option Value → Nat → Wd → Prop} (hy : plainName J.1.cls = true) (h1 : ∀ v ∈ av, v.category = 1) (hn : av.length ≤ J.2.2.1)
    (h : AW l D b J (fx_rm d mc ms) none (fx_MQ D b mc ms Q) 0 (fx_ent av J.2.2.1) [] N V 0 0) : MW l D b d J av N V mc ms Q := by
  refine Met.ofW (cc := J.2.1) (maxL := J.2.2.1) (ret := J.2.2.2) hy rfl ?_
  intro p e s m args below meth c s₁ B hml hv
  obtain ⟨rfl, hK, hA, hNS⟩ := hv
  rw [lg_entry_eq]
  have hl := lv_entry av (n := J.2.2.1) (by rw [fx_sl1 h1]; exact hn)
  refine h p e s m av.toArray below meth c s.heap [] _ ⟨B.exec, B.bytes, B.returns, hml, findClass_of_methodNamed B.named, atoms_spec (ws := fx_ws J) B.pre, B.notSynchronized, (name_of_methodNamed B.named B.method).1, hK, by have := hA.1; omega, fun b L xs e => (by cases e), hNS⟩ ⟨hl.1, hl.2.1, fun i v hi => ?_⟩ hA va_S.rf
  have hav : av[i]? = some v := by
    unfold fx_ent at hi
    by_cases hlt : i < av.length
    · rw [List.getElem?_append_left (by simpa using hlt), List.getElem?_map] at hi
      cases hx : av[i]? with
      | none => rw [hx] at hi; cases hi
      | some w => rw [hx] at hi; cases hi; rfl
    · rw [List.getElem?_append_right (by simpa using hlt), List.getElem?_replicate] at hi
      split at hi <;> cases hi
  have := fx_ents h1 i v hav 0
  rw [Nat.zero_add] at this
  exact hl.2.2 (i, v) this
theorem mw_post {l : Launch} {D : va_G} {b d : Nat} {J : Md} {av : List Value} {N : Nat} {V : Wd} {mc ms : Nat} {Q Q' : Option Value → Nat → Wd → Prop} (h : MW l D b d J av N V mc ms Q) (hQ : ∀ r N' V', Q r N' V' → Q' r N' V') : MW l D b d J av N V mc ms Q' := by
  intro p e a1 a2 a3 s m args below b1 b2 b3 b4
  obtain ⟨t, o, c1, c2, c3, ⟨⟨r, N', V', e1, hq, hA⟩, hF⟩, c5⟩ := h p e a1 a2 a3 s m args below b1 b2 b3 b4
  exact ⟨t, o, c1, c2, c3, ⟨⟨r, N', V', e1, hQ r N' V' hq, hA⟩, hF⟩, c5⟩
section AWV
variable {l : Launch} {D : va_G} {b : Nat} {J : Md} {R : Room} {X : Sc} {FQ : Array Value → List Frame → State → State → Prop} {pc : Nat} {ls ls' : List (Option Value)} {st : List Value} {N : Nat} {V : Wd} {k n : Nat}
theorem aw_le (h1 : fx_le ls' ls) (h : AW l D b J R X FQ pc ls' st N V k n) : AW l D b J R X FQ pc ls st N V k n := fun p e s m args below meth c H locs arr hC hL hA hS => h p e s m args below meth c H locs arr hC ⟨hL.1, hL.2.1, fun i v hv => hL.2.2 i v (fx_le_get h1 i v hv)⟩ hA hS
theorem aw_iconst {i : Int} {v : Int32} (hd : decode J.2.1 pc = .ok (.iconst i, 1)) (hv : Int32.ofInt i = v) (h : AW l D b J R X FQ (pc + 1) ls (.int v :: st) N V k n) : AW l D b J R X FQ pc ls (st) N V k n := fun p e s m args below meth c H locs arr hC hL hA hS => lv_iconst hC.1 hC.2.1 hd hv (h p e s m args below meth c H locs arr hC hL hA hS)
theorem aw_bipush {i : Int} {v : Int32} (hd : decode J.2.1 pc = .ok (.bipush i, 2)) (hv : (Int8.ofInt i).toInt32 = v) (h : AW l D b J R X FQ (pc + 2) ls (.int v :: st) N V k n) : AW l D b J R X FQ pc ls (st) N V k n := fun p e s m args below meth c H locs arr hC hL hA hS => lv_bipush hC.1 hC.2.1 hd hv (h p e s m args below meth c H locs arr hC hL hA hS)
theorem aw_sipush {i : Int} {v : Int32} (hd : decode J.2.1 pc = .ok (.sipush i, 3)) (hv : (Int16.ofInt i).toInt32 = v) (h : AW l D b J R X FQ (pc + 3) ls (.int v :: st) N V k n) : AW l D b J R X FQ pc ls (st) N V k n := fun p e s m args below meth c H locs arr hC hL hA hS => lv_sipush hC.1 hC.2.1 hd hv (h p e s m args below meth c H locs arr hC hL hA hS)
theorem aw_lconst {i : Fin 2} {v : Int64} (hd : decode J.2.1 pc = .ok (.lconst i, 1)) (hv : Int64.ofNat (i : Nat) = v) (h : AW l D b J R X FQ (pc + 1) ls (.long v :: st) N V k n) : AW l D b J R X FQ pc ls (st) N V k n := fun p e s m args below meth c H locs arr hC hL hA hS => lv_lconst hC.1 hC.2.1 hd hv (h p e s m args below meth c H locs arr hC hL hA hS)
theorem aw_iload {i : Nat} {v : Int32} (hd : decode J.2.1 pc = .ok (.iload i, 2)) (hl : ls[i]? = some (some (.int v))) (h : AW l D b J R X FQ (pc + 2) ls (.int v :: st) N V k n) : AW l D b J R X FQ pc ls (st) N V k n := fun p e s m args below meth c H locs arr hC hL hA hS => lv_iload hC.1 hC.2.1 hd (hL.2.2 _ _ hl) (h p e s m args below meth c H locs arr hC hL hA hS)
theorem aw_iload_n {i : Fin 4} {v : Int32} (hd : decode J.2.1 pc = .ok (.iload_n i, 1)) (hl : ls[(i : Nat)]? = some (some (.int v))) (h : AW l D b J R X FQ (pc + 1) ls (.int v :: st) N V k n) : AW l D b J R X FQ pc ls (st) N V k n := fun p e s m args below meth c H locs arr hC hL hA hS => lv_iload_n hC.1 hC.2.1 hd rfl (hL.2.2 _ _ hl) (h p e s m args below meth c H locs arr hC hL hA hS)
theorem aw_aload {i : Nat} {v : Nat} (hd : decode J.2.1 pc = .ok (.aload i, 2)) (hl : ls[i]? = some (some (.ref v))) (h : AW l D b J R X FQ (pc + 2) ls (.ref v :: st) N V k n) : AW l D b J R X FQ pc ls (st) N V k n := fun p e s m args below meth c H locs arr hC hL hA hS => lv_aload hC.1 hC.2.1 hd (hL.2.2 _ _ hl) (h p e s m args below meth c H locs arr hC hL hA hS)
theorem aw_aload_n {i : Fin 4} {v : Nat} (hd : decode J.2.1 pc = .ok (.aload_n i, 1)) (hl : ls[(i : Nat)]? = some (some (.ref v))) (h : AW l D b J R X FQ (pc + 1) ls (.ref v :: st) N V k n) : AW l D b J R X FQ pc ls (st) N V k n := fun p e s m args below meth c H locs arr hC hL hA hS => lv_aload_n hC.1 hC.2.1 hd rfl (hL.2.2 _ _ hl) (h p e s m args below meth c H locs arr hC hL hA hS)
theorem aw_lload {i : Nat} {v : Int64} (hd : decode J.2.1 pc = .ok (.lload i, 2)) (hl : ls[i]? = some (some (.long v))) (h : AW l D b J R X FQ (pc + 2) ls (.long v :: st) N V k n) : AW l D b J R X FQ pc ls (st) N V k n := fun p e s m args below meth c H locs arr hC hL hA hS => lv_lload hC.1 hC.2.1 hd (hL.2.2 _ _ hl) (h p e s m args below meth c H locs arr hC hL hA hS)
theorem aw_lload_n {i : Fin 4} {v : Int64} (hd : decode J.2.1 pc = .ok (.lload_n i, 1)) (hl : ls[(i : Nat)]? = some (some (.long v))) (h : AW l D b J R X FQ (pc + 1) ls (.long v :: st) N V k n) : AW l D b J R X FQ pc ls (st) N V k n := fun p e s m args below meth c H locs arr hC hL hA hS => lv_lload_n hC.1 hC.2.1 hd rfl (hL.2.2 _ _ hl) (h p e s m args below meth c H locs arr hC hL hA hS)
theorem aw_istore {i : Nat} {v : Int32} (hd : decode J.2.1 pc = .ok (.istore i, 2)) (hn : i < J.2.2.1) (hl : fx_s1 ls i (.int v) = ls') (h : AW l D b J R X FQ (pc + 2) ls' st N V k n) : AW l D b J R X FQ pc ls (.int v :: st) N V k n := fun p e s m args below meth c H locs arr hC hL hA hS => lv_istore hC.1 hC.2.1 hd hL.has hn rfl (fun arr' h' => h p e s m args below meth c H locs arr' hC (hl ▸ fx_s1_of h') hA hS)
theorem aw_istore_n {i : Fin 4} {v : Int32} (hd : decode J.2.1 pc = .ok (.istore_n i, 1)) (hn : (i : Nat) < J.2.2.1) (hl : fx_s1 ls (i : Nat) (.int v) = ls') (h : AW l D b J R X FQ (pc + 1) ls' st N V k n) : AW l D b J R X FQ pc ls (.int v :: st) N V k n := fun p e s m args below meth c H locs arr hC hL hA hS => lv_istore_n hC.1 hC.2.1 hd rfl hL.has hn rfl (fun arr' h' => h p e s m args below meth c H locs arr' hC (hl ▸ fx_s1_of h') hA hS)
theorem aw_astore {i : Nat} {v : Nat} (hd : decode J.2.1 pc = .ok (.astore i, 2)) (hn : i < J.2.2.1) (hl : fx_s1 ls i (.ref v) = ls') (h : AW l D b J R X FQ (pc + 2) ls' st N V k n) : AW l D b J R X FQ pc ls (.ref v :: st) N V k n := fun p e s m args below meth c H locs arr hC hL hA hS => lv_astore hC.1 hC.2.1 hd hL.has hn rfl (fun arr' h' => h p e s m args below meth c H locs arr' hC (hl ▸ fx_s1_of h') hA hS)
theorem aw_astore_n {i : Fin 4} {v : Nat} (hd : decode J.2.1 pc = .ok (.astore_n i, 1)) (hn : (i : Nat) < J.2.2.1) (hl : fx_s1 ls (i : Nat) (.ref v) = ls') (h : AW l D b J R X FQ (pc + 1) ls' st N V k n) : AW l D b J R X FQ pc ls (.ref v :: st) N V k n := fun p e s m args below meth c H locs arr hC hL hA hS => lv_astore_n hC.1 hC.2.1 hd rfl hL.has hn rfl (fun arr' h' => h p e s m args below meth c H locs arr' hC (hl ▸ fx_s1_of h') hA hS)
theorem aw_lstore {i : Nat} {v : Int64} (hd : decode J.2.1 pc = .ok (.lstore i, 2)) (hn : i + 1 < J.2.2.1) (hl : fx_s2 ls i (.long v) = ls') (h : AW l D b J R X FQ (pc + 2) ls' st N V k n) : AW l D b J R X FQ pc ls (.long v :: st) N V k n := fun p e s m args below meth c H locs arr hC hL hA hS => lv_lstore hC.1 hC.2.1 hd hL.has hn rfl (fun arr' h' => h p e s m args below meth c H locs arr' hC (hl ▸ fx_s2_of h') hA hS)
theorem aw_lstore_n {i : Fin 4} {v : Int64} (hd : decode J.2.1 pc = .ok (.lstore_n i, 1)) (hn : (i : Nat) + 1 < J.2.2.1) (hl : fx_s2 ls (i : Nat) (.long v) = ls') (h : AW l D b J R X FQ (pc + 1) ls' st N V k n) : AW l D b J R X FQ pc ls (.long v :: st) N V k n := fun p e s m args below meth c H locs arr hC hL hA hS => lv_lstore_n hC.1 hC.2.1 hd rfl hL.has hn rfl (fun arr' h' => h p e s m args below meth c H locs arr' hC (hl ▸ fx_s2_of h') hA hS)
theorem aw_iinc {i : Nat} {c9 : Int} {x v : Int32} (hd : decode J.2.1 pc = .ok (.iinc i c9, 3)) (hx : ls[i]? = some (some (.int x))) (hv : x + Int32.ofInt c9 = v) (hn : i < J.2.2.1) (hl : fx_s1 ls i (.int v) = ls') (h : AW l D b J R X FQ (pc + 3) ls' st N V k n) : AW l D b J R X FQ pc ls st N V k n := by
  intro p e s m args below meth c H locs arr hC hL hA hS
  obtain ⟨j, hj⟩ := List.getElem?_of_mem (fx_as_mem.mpr (show ls[((i, Value.int x) : Nat × Value).1]? = _ from hx))
  exact lv_iinc hC.1 hC.2.1 hd hL.has hj hv hn rfl (fun arr' h' => h p e s m args below meth c H locs arr' hC (hl ▸ fx_s1_of h') hA hS)
theorem aw_iadd {x y : Int32} (hd : decode J.2.1 pc = .ok (.iadd, 1))  (h : AW l D b J R X FQ (pc + 1) ls (.int (x + y) :: st) N V k n) : AW l D b J R X FQ pc ls (.int y :: .int x :: st) N V k n := fun p e s m args below meth c H locs arr hC hL hA hS => lv_iadd hC.1 hC.2.1 hd  (h p e s m args below meth c H locs arr hC hL hA hS)
theorem aw_isub {x y : Int32} (hd : decode J.2.1 pc = .ok (.isub, 1))  (h : AW l D b J R X FQ (pc + 1) ls (.int (x - y) :: st) N V k n) : AW l D b J R X FQ pc ls (.int y :: .int x :: st) N V k n := fun p e s m args below meth c H locs arr hC hL hA hS => lv_isub hC.1 hC.2.1 hd  (h p e s m args below meth c H locs arr hC hL hA hS)
theorem aw_imul {x y : Int32} (hd : decode J.2.1 pc = .ok (.imul, 1))  (h : AW l D b J R X FQ (pc + 1) ls (.int (x * y) :: st) N V k n) : AW l D b J R X FQ pc ls (.int y :: .int x :: st) N V k n := fun p e s m args below meth c H locs arr hC hL hA hS => lv_imul hC.1 hC.2.1 hd  (h p e s m args below meth c H locs arr hC hL hA hS)
theorem aw_iand {x y : Int32} (hd : decode J.2.1 pc = .ok (.iand, 1))  (h : AW l D b J R X FQ (pc + 1) ls (.int (x &&& y) :: st) N V k n) : AW l D b J R X FQ pc ls (.int y :: .int x :: st) N V k n := fun p e s m args below meth c H locs arr hC hL hA hS => lv_iand hC.1 hC.2.1 hd  (h p e s m args below meth c H locs arr hC hL hA hS)
theorem aw_ior {x y : Int32} (hd : decode J.2.1 pc = .ok (.ior, 1))  (h : AW l D b J R X FQ (pc + 1) ls (.int (x ||| y) :: st) N V k n) : AW l D b J R X FQ pc ls (.int y :: .int x :: st) N V k n := fun p e s m args below meth c H locs arr hC hL hA hS => lv_ior hC.1 hC.2.1 hd  (h p e s m args below meth c H locs arr hC hL hA hS)
theorem aw_ixor {x y : Int32} (hd : decode J.2.1 pc = .ok (.ixor, 1))  (h : AW l D b J R X FQ (pc + 1) ls (.int (x ^^^ y) :: st) N V k n) : AW l D b J R X FQ pc ls (.int y :: .int x :: st) N V k n := fun p e s m args below meth c H locs arr hC hL hA hS => lv_ixor hC.1 hC.2.1 hd  (h p e s m args below meth c H locs arr hC hL hA hS)
theorem aw_ishl {x y : Int32} (hd : decode J.2.1 pc = .ok (.ishl, 1))  (h : AW l D b J R X FQ (pc + 1) ls (.int (x <<< (y &&& 31)) :: st) N V k n) : AW l D b J R X FQ pc ls (.int y :: .int x :: st) N V k n := fun p e s m args below meth c H locs arr hC hL hA hS => lv_ishl hC.1 hC.2.1 hd  (h p e s m args below meth c H locs arr hC hL hA hS)
theorem aw_ishr {x y : Int32} (hd : decode J.2.1 pc = .ok (.ishr, 1))  (h : AW l D b J R X FQ (pc + 1) ls (.int (x >>> (y &&& 31)) :: st) N V k n) : AW l D b J R X FQ pc ls (.int y :: .int x :: st) N V k n := fun p e s m args below meth c H locs arr hC hL hA hS => lv_ishr hC.1 hC.2.1 hd  (h p e s m args below meth c H locs arr hC hL hA hS)
theorem aw_idiv {x y : Int32} (hd : decode J.2.1 pc = .ok (.idiv, 1)) (hne : ¬ y = 0) (h : AW l D b J R X FQ (pc + 1) ls (.int (x / y) :: st) N V k n) : AW l D b J R X FQ pc ls (.int y :: .int x :: st) N V k n := fun p e s m args below meth c H locs arr hC hL hA hS => lv_idiv hC.1 hC.2.1 hd hne (h p e s m args below meth c H locs arr hC hL hA hS)
theorem aw_irem {x y : Int32} (hd : decode J.2.1 pc = .ok (.irem, 1)) (hne : ¬ y = 0) (h : AW l D b J R X FQ (pc + 1) ls (.int (x - x / y * y) :: st) N V k n) : AW l D b J R X FQ pc ls (.int y :: .int x :: st) N V k n := fun p e s m args below meth c H locs arr hC hL hA hS => lv_irem hC.1 hC.2.1 hd hne (h p e s m args below meth c H locs arr hC hL hA hS)
theorem aw_ineg {x : Int32} (hd : decode J.2.1 pc = .ok (.ineg, 1))  (h : AW l D b J R X FQ (pc + 1) ls (.int (-x) :: st) N V k n) : AW l D b J R X FQ pc ls (.int x :: st) N V k n := fun p e s m args below meth c H locs arr hC hL hA hS => lv_ineg hC.1 hC.2.1 hd  (h p e s m args below meth c H locs arr hC hL hA hS)
theorem aw_ladd {x y : Int64} (hd : decode J.2.1 pc = .ok (.ladd, 1))  (h : AW l D b J R X FQ (pc + 1) ls (.long (x + y) :: st) N V k n) : AW l D b J R X FQ pc ls (.long y :: .long x :: st) N V k n := fun p e s m args below meth c H locs arr hC hL hA hS => lv_ladd hC.1 hC.2.1 hd  (h p e s m args below meth c H locs arr hC hL hA hS)
theorem aw_lsub {x y : Int64} (hd : decode J.2.1 pc = .ok (.lsub, 1))  (h : AW l D b J R X FQ (pc + 1) ls (.long (x - y) :: st) N V k n) : AW l D b J R X FQ pc ls (.long y :: .long x :: st) N V k n := fun p e s m args below meth c H locs arr hC hL hA hS => lv_lsub hC.1 hC.2.1 hd  (h p e s m args below meth c H locs arr hC hL hA hS)
theorem aw_lmul {x y : Int64} (hd : decode J.2.1 pc = .ok (.lmul, 1))  (h : AW l D b J R X FQ (pc + 1) ls (.long (x * y) :: st) N V k n) : AW l D b J R X FQ pc ls (.long y :: .long x :: st) N V k n := fun p e s m args below meth c H locs arr hC hL hA hS => lv_lmul hC.1 hC.2.1 hd  (h p e s m args below meth c H locs arr hC hL hA hS)
theorem aw_lcmp {x y : Int64} (hd : decode J.2.1 pc = .ok (.lcmp, 1))  (h : AW l D b J R X FQ (pc + 1) ls (.int (lg_cmp x y) :: st) N V k n) : AW l D b J R X FQ pc ls (.long y :: .long x :: st) N V k n := fun p e s m args below meth c H locs arr hC hL hA hS => W.lcmp hC.1 hC.2.1 hd  (h p e s m args below meth c H locs arr hC hL hA hS)
theorem aw_i2l {x : Int32} {v : Int64} (hd : decode J.2.1 pc = .ok (.i2l, 1)) (hv : x.toInt64 = v) (h : AW l D b J R X FQ (pc + 1) ls (.long v :: st) N V k n) : AW l D b J R X FQ pc ls (.int x :: st) N V k n := fun p e s m args below meth c H locs arr hC hL hA hS => lv_i2l hC.1 hC.2.1 hd hv (h p e s m args below meth c H locs arr hC hL hA hS)
theorem aw_l2i {x : Int64} {v : Int32} (hd : decode J.2.1 pc = .ok (.l2i, 1)) (hv : x.toInt32 = v) (h : AW l D b J R X FQ (pc + 1) ls (.int v :: st) N V k n) : AW l D b J R X FQ pc ls (.long x :: st) N V k n := fun p e s m args below meth c H locs arr hC hL hA hS => lv_l2i hC.1 hC.2.1 hd hv (h p e s m args below meth c H locs arr hC hL hA hS)
theorem aw_i2b {x v : Int32} (hd : decode J.2.1 pc = .ok (.i2b, 1)) (hv : x.toInt8.toInt32 = v) (h : AW l D b J R X FQ (pc + 1) ls (.int v :: st) N V k n) : AW l D b J R X FQ pc ls (.int x :: st) N V k n := fun p e s m args below meth c H locs arr hC hL hA hS => lv_i2b hC.1 hC.2.1 hd hv (h p e s m args below meth c H locs arr hC hL hA hS)
theorem aw_i2c {x v : Int32} (hd : decode J.2.1 pc = .ok (.i2c, 1)) (hv : (x.toUInt32 % 65536).toInt32 = v) (h : AW l D b J R X FQ (pc + 1) ls (.int v :: st) N V k n) : AW l D b J R X FQ pc ls (.int x :: st) N V k n := fun p e s m args below meth c H locs arr hC hL hA hS => lv_i2c hC.1 hC.2.1 hd hv (h p e s m args below meth c H locs arr hC hL hA hS)
theorem aw_dup {va : Value} (hd : decode J.2.1 pc = .ok (.dup, 1)) (hv : va.category = 1) (h : AW l D b J R X FQ (pc + 1) ls (va :: va :: st) N V k n) : AW l D b J R X FQ pc ls (va :: st) N V k n := fun p e s m args below meth c H locs arr hC hL hA hS => lv_dup hC.1 hC.2.1 hd hv (h p e s m args below meth c H locs arr hC hL hA hS)
theorem aw_pop {va : Value} (hd : decode J.2.1 pc = .ok (.pop, 1)) (hv : va.category = 1) (h : AW l D b J R X FQ (pc + 1) ls (st) N V k n) : AW l D b J R X FQ pc ls (va :: st) N V k n := fun p e s m args below meth c H locs arr hC hL hA hS => lv_pop hC.1 hC.2.1 hd hv (h p e s m args below meth c H locs arr hC hL hA hS)
theorem aw_dup2 {va vb : Value} (hd : decode J.2.1 pc = .ok (.dup2, 1)) (hv : va.category = 1) (hw : vb.category = 1) (h : AW l D b J R X FQ (pc + 1) ls (va :: vb :: va :: vb :: st) N V k n) : AW l D b J R X FQ pc ls (va :: vb :: st) N V k n := fun p e s m args below meth c H locs arr hC hL hA hS => lv_dup2_11 hC.1 hC.2.1 hd hv hw (h p e s m args below meth c H locs arr hC hL hA hS)
theorem aw_dup_x1 {va vb : Value} (hd : decode J.2.1 pc = .ok (.dup_x1, 1)) (hv : va.category = 1) (hw : vb.category = 1) (h : AW l D b J R X FQ (pc + 1) ls (va :: vb :: va :: st) N V k n) : AW l D b J R X FQ pc ls (va :: vb :: st) N V k n := fun p e s m args below meth c H locs arr hC hL hA hS => lv_dup_x1 hC.1 hC.2.1 hd hv hw (h p e s m args below meth c H locs arr hC hL hA hS)
theorem aw_dup_x2 {va vb vd : Value} (hd : decode J.2.1 pc = .ok (.dup_x2, 1)) (hv : va.category = 1) (hw : vb.category = 1) (hz : vd.category = 1) (h : AW l D b J R X FQ (pc + 1) ls (va :: vb :: vd :: va :: st) N V k n) : AW l D b J R X FQ pc ls (va :: vb :: vd :: st) N V k n := fun p e s m args below meth c H locs arr hC hL hA hS => lv_dup_x2 hC.1 hC.2.1 hd hv hw hz (h p e s m args below meth c H locs arr hC hL hA hS)
theorem aw_goto {off : Int} {tgt : Nat} (hd : decode J.2.1 pc = .ok (.goto off, 3)) (ht : (pc : Int) + off = (tgt : Int)) (h : AW l D b J R X FQ tgt ls st N V k n) : AW l D b J R X FQ pc ls st N V k n := fun p e s m args below meth c H locs arr hC hL hA hS => lv_goto hC.1 hC.2.1 hd ht (h p e s m args below meth c H locs arr hC hL hA hS)
theorem aw_if_eq {x : Int32} {off : Int} {tgt : Nat} (hd : decode J.2.1 pc = .ok (.ifCond .eq off, 3)) (ht : (pc : Int) + off = (tgt : Int)) (h1 : x = 0 → AW l D b J R X FQ tgt ls st N V k n) (h2 : ¬ x = 0 → AW l D b J R X FQ (pc + 3) ls st N V k n) : AW l D b J R X FQ pc ls (.int x :: st) N V k n := fun p e s m args below meth c H locs arr hC hL hA hS => lv_if_eq hC.1 hC.2.1 hd ht (fun z => h1 z p e s m args below meth c H locs arr hC hL hA hS) (fun z => h2 z p e s m args below meth c H locs arr hC hL hA hS)
theorem aw_if_ne {x : Int32} {off : Int} {tgt : Nat} (hd : decode J.2.1 pc = .ok (.ifCond .ne off, 3)) (ht : (pc : Int) + off = (tgt : Int)) (h1 : ¬ x = 0 → AW l D b J R X FQ tgt ls st N V k n) (h2 : x = 0 → AW l D b J R X FQ (pc + 3) ls st N V k n) : AW l D b J R X FQ pc ls (.int x :: st) N V k n := fun p e s m args below meth c H locs arr hC hL hA hS => lv_if_ne hC.1 hC.2.1 hd ht (fun z => h1 z p e s m args below meth c H locs arr hC hL hA hS) (fun z => h2 z p e s m args below meth c H locs arr hC hL hA hS)
theorem aw_if_lt {x : Int32} {off : Int} {tgt : Nat} (hd : decode J.2.1 pc = .ok (.ifCond .lt off, 3)) (ht : (pc : Int) + off = (tgt : Int)) (h1 : x < 0 → AW l D b J R X FQ tgt ls st N V k n) (h2 : ¬ x < 0 → AW l D b J R X FQ (pc + 3) ls st N V k n) : AW l D b J R X FQ pc ls (.int x :: st) N V k n := fun p e s m args below meth c H locs arr hC hL hA hS => lv_if_lt hC.1 hC.2.1 hd ht (fun z => h1 z p e s m args below meth c H locs arr hC hL hA hS) (fun z => h2 z p e s m args below meth c H locs arr hC hL hA hS)
theorem aw_if_ge {x : Int32} {off : Int} {tgt : Nat} (hd : decode J.2.1 pc = .ok (.ifCond .ge off, 3)) (ht : (pc : Int) + off = (tgt : Int)) (h1 : 0 ≤ x → AW l D b J R X FQ tgt ls st N V k n) (h2 : ¬ 0 ≤ x → AW l D b J R X FQ (pc + 3) ls st N V k n) : AW l D b J R X FQ pc ls (.int x :: st) N V k n := fun p e s m args below meth c H locs arr hC hL hA hS => lv_if_ge hC.1 hC.2.1 hd ht (fun z => h1 z p e s m args below meth c H locs arr hC hL hA hS) (fun z => h2 z p e s m args below meth c H locs arr hC hL hA hS)
theorem aw_if_gt {x : Int32} {off : Int} {tgt : Nat} (hd : decode J.2.1 pc = .ok (.ifCond .gt off, 3)) (ht : (pc : Int) + off = (tgt : Int)) (h1 : 0 < x → AW l D b J R X FQ tgt ls st N V k n) (h2 : ¬ 0 < x → AW l D b J R X FQ (pc + 3) ls st N V k n) : AW l D b J R X FQ pc ls (.int x :: st) N V k n := fun p e s m args below meth c H locs arr hC hL hA hS => lv_if_gt hC.1 hC.2.1 hd ht (fun z => h1 z p e s m args below meth c H locs arr hC hL hA hS) (fun z => h2 z p e s m args below meth c H locs arr hC hL hA hS)
theorem aw_if_le {x : Int32} {off : Int} {tgt : Nat} (hd : decode J.2.1 pc = .ok (.ifCond .le off, 3)) (ht : (pc : Int) + off = (tgt : Int)) (h1 : x ≤ 0 → AW l D b J R X FQ tgt ls st N V k n) (h2 : ¬ x ≤ 0 → AW l D b J R X FQ (pc + 3) ls st N V k n) : AW l D b J R X FQ pc ls (.int x :: st) N V k n := fun p e s m args below meth c H locs arr hC hL hA hS => lv_if_le hC.1 hC.2.1 hd ht (fun z => h1 z p e s m args below meth c H locs arr hC hL hA hS) (fun z => h2 z p e s m args below meth c H locs arr hC hL hA hS)
theorem aw_icmp_eq {x y : Int32} {off : Int} {tgt : Nat} (hd : decode J.2.1 pc = .ok (.if_icmp .eq off, 3)) (ht : (pc : Int) + off = (tgt : Int)) (h1 : x = y → AW l D b J R X FQ tgt ls st N V k n) (h2 : ¬ x = y → AW l D b J R X FQ (pc + 3) ls st N V k n) : AW l D b J R X FQ pc ls (.int y :: .int x :: st) N V k n := fun p e s m args below meth c H locs arr hC hL hA hS => lv_icmp_eq hC.1 hC.2.1 hd ht (fun z => h1 z p e s m args below meth c H locs arr hC hL hA hS) (fun z => h2 z p e s m args below meth c H locs arr hC hL hA hS)
theorem aw_icmp_ne {x y : Int32} {off : Int} {tgt : Nat} (hd : decode J.2.1 pc = .ok (.if_icmp .ne off, 3)) (ht : (pc : Int) + off = (tgt : Int)) (h1 : ¬ x = y → AW l D b J R X FQ tgt ls st N V k n) (h2 : x = y → AW l D b J R X FQ (pc + 3) ls st N V k n) : AW l D b J R X FQ pc ls (.int y :: .int x :: st) N V k n := fun p e s m args below meth c H locs arr hC hL hA hS => lv_icmp_ne hC.1 hC.2.1 hd ht (fun z => h1 z p e s m args below meth c H locs arr hC hL hA hS) (fun z => h2 z p e s m args below meth c H locs arr hC hL hA hS)
theorem aw_icmp_lt {x y : Int32} {off : Int} {tgt : Nat} (hd : decode J.2.1 pc = .ok (.if_icmp .lt off, 3)) (ht : (pc : Int) + off = (tgt : Int)) (h1 : x < y → AW l D b J R X FQ tgt ls st N V k n) (h2 : ¬ x < y → AW l D b J R X FQ (pc + 3) ls st N V k n) : AW l D b J R X FQ pc ls (.int y :: .int x :: st) N V k n := fun p e s m args below meth c H locs arr hC hL hA hS => lv_icmp_lt hC.1 hC.2.1 hd ht (fun z => h1 z p e s m args below meth c H locs arr hC hL hA hS) (fun z => h2 z p e s m args below meth c H locs arr hC hL hA hS)
theorem aw_icmp_ge {x y : Int32} {off : Int} {tgt : Nat} (hd : decode J.2.1 pc = .ok (.if_icmp .ge off, 3)) (ht : (pc : Int) + off = (tgt : Int)) (h1 : y ≤ x → AW l D b J R X FQ tgt ls st N V k n) (h2 : ¬ y ≤ x → AW l D b J R X FQ (pc + 3) ls st N V k n) : AW l D b J R X FQ pc ls (.int y :: .int x :: st) N V k n := fun p e s m args below meth c H locs arr hC hL hA hS => lv_icmp_ge hC.1 hC.2.1 hd ht (fun z => h1 z p e s m args below meth c H locs arr hC hL hA hS) (fun z => h2 z p e s m args below meth c H locs arr hC hL hA hS)
theorem aw_icmp_gt {x y : Int32} {off : Int} {tgt : Nat} (hd : decode J.2.1 pc = .ok (.if_icmp .gt off, 3)) (ht : (pc : Int) + off = (tgt : Int)) (h1 : y < x → AW l D b J R X FQ tgt ls st N V k n) (h2 : ¬ y < x → AW l D b J R X FQ (pc + 3) ls st N V k n) : AW l D b J R X FQ pc ls (.int y :: .int x :: st) N V k n := fun p e s m args below meth c H locs arr hC hL hA hS => lv_icmp_gt hC.1 hC.2.1 hd ht (fun z => h1 z p e s m args below meth c H locs arr hC hL hA hS) (fun z => h2 z p e s m args below meth c H locs arr hC hL hA hS)
theorem aw_icmp_le {x y : Int32} {off : Int} {tgt : Nat} (hd : decode J.2.1 pc = .ok (.if_icmp .le off, 3)) (ht : (pc : Int) + off = (tgt : Int)) (h1 : x ≤ y → AW l D b J R X FQ tgt ls st N V k n) (h2 : ¬ x ≤ y → AW l D b J R X FQ (pc + 3) ls st N V k n) : AW l D b J R X FQ pc ls (.int y :: .int x :: st) N V k n := fun p e s m args below meth c H locs arr hC hL hA hS => lv_icmp_le hC.1 hC.2.1 hd ht (fun z => h1 z p e s m args below meth c H locs arr hC hL hA hS) (fun z => h2 z p e s m args below meth c H locs arr hC hL hA hS)
theorem aw_tableIn {dflt lo hi : Int} {offs : Array Int} {len : Nat} {x : Int32} {off : Int} {tgt : Nat} (hd : decode J.2.1 pc = .ok (.tableswitch dflt lo hi offs, len)) (h1 : ¬ x.toInt < lo) (h2 : ¬ hi < x.toInt) (ho : offs[(x.toInt - lo).toNat]? = some off) (ht : (pc : Int) + off = (tgt : Int)) (h : AW l D b J R X FQ tgt ls st N V k n) : AW l D b J R X FQ pc ls (.int x :: st) N V k n := fun p e s m args below meth c H locs arr hC hL hA hS => lv_tableIn hC.1 hC.2.1 hd h1 h2 ho ht (h p e s m args below meth c H locs arr hC hL hA hS)
theorem aw_tableOut {dflt lo hi : Int} {offs : Array Int} {len : Nat} {x : Int32} {tgt : Nat} (hd : decode J.2.1 pc = .ok (.tableswitch dflt lo hi offs, len)) (h1 : x.toInt < lo ∨ hi < x.toInt) (ht : (pc : Int) + dflt = (tgt : Int)) (h : AW l D b J R X FQ tgt ls st N V k n) : AW l D b J R X FQ pc ls (.int x :: st) N V k n := fun p e s m args below meth c H locs arr hC hL hA hS => lv_tableOut hC.1 hC.2.1 hd h1 ht (h p e s m args below meth c H locs arr hC hL hA hS)
theorem aw_lookup {dflt : Int} {ps : Array (Int × Int)} {len : Nat} {x : Int32} {off : Int} {tgt : Nat} (hd : decode J.2.1 pc = .ok (.lookupswitch dflt ps, len)) (hp : (ps.toList.zip (ps.toList.drop 1)).all (fun (a, next) => a.1 < next.1) = true) (ho : Op.lookupswitch.offset ps.toList dflt x.toInt = off) (ht : (pc : Int) + off = (tgt : Int)) (h : AW l D b J R X FQ tgt ls st N V k n) : AW l D b J R X FQ pc ls (.int x :: st) N V k n := fun p e s m args below meth c H locs arr hC hL hA hS => lv_lookup hC.1 hC.2.1 hd hp ho ht (h p e s m args below meth c H locs arr hC hL hA hS)
theorem aw_ldc {i : Nat} {v : Int32} (hd : decode J.2.1 pc = .ok (.ldc i, 2)) (hw : Cond.constant J.1.cls i v ∈ fx_TB) (h : AW l D b J R X FQ (pc + 2) ls (.int v :: st) N V k n) : AW l D b J R X FQ pc ls st N V k n := fun p e s m args below meth c H locs arr hC hL hA hS => lv_ldc hC.1 hC.2.1 hC.2.2.2.2.1 (hC.2.2.2.2.2.1 _ (List.mem_cons_of_mem _ hw)) hd (h p e s m args below meth c H locs arr hC hL hA hS)
theorem aw_ldcw {i : Nat} {v : Int32} (hd : decode J.2.1 pc = .ok (.ldc_w i, 3)) (hw : Cond.constant J.1.cls i v ∈ fx_TB) (h : AW l D b J R X FQ (pc + 3) ls (.int v :: st) N V k n) : AW l D b J R X FQ pc ls st N V k n := fun p e s m args below meth c H locs arr hC hL hA hS => lv_ldcw hC.1 hC.2.1 hC.2.2.2.2.1 (hC.2.2.2.2.2.1 _ (List.mem_cons_of_mem _ hw)) hd (h p e s m args below meth c H locs arr hC hL hA hS)
theorem aw_ldc2 {i : Nat} {v : Int64} (hd : decode J.2.1 pc = .ok (.ldc2_w i, 3)) (hw : Cond.constantLong J.1.cls i v ∈ fx_TB) (h : AW l D b J R X FQ (pc + 3) ls (.long v :: st) N V k n) : AW l D b J R X FQ pc ls st N V k n := fun p e s m args below meth c H locs arr hC hL hA hS => lv_ldc2 hC.1 hC.2.1 hC.2.2.2.2.1 (hC.2.2.2.2.2.1 _ (List.mem_cons_of_mem _ hw)) hd (h p e s m args below meth c H locs arr hC hL hA hS)
/-- a name for a computed top of the stack -/
theorem aw_topi {x : Int32} (h : ∀ y : Int32, y = x → AW l D b J R X FQ pc ls (.int y :: st) N V k n) : AW l D b J R X FQ pc ls (.int x :: st) N V k n := h x rfl
theorem aw_eqi {x y : Int32} (e : x = y) (h : AW l D b J R X FQ pc ls (.int y :: st) N V k n) : AW l D b J R X FQ pc ls (.int x :: st) N V k n := e ▸ h
theorem aw_eql {x y : Int64} (e : x = y) (h : AW l D b J R X FQ pc ls (.long y :: st) N V k n) : AW l D b J R X FQ pc ls (.long x :: st) N V k n := e ▸ h
theorem aw_wd {V' : Wd} (e : V = V') (h : AW l D b J R X FQ pc ls st N V' k n) : AW l D b J R X FQ pc ls st N V k n := e ▸ h
/-! fields -/
def fx_fl (own : String) (idx ci k : Nat) : Prop := ∃ (C : String) (T : u_T) (N : Nat), vwCl[ci]? = some (C, T, N) ∧ k < N ∧ (∀ w ∈ u_ws C T N, w ∈ fx_TB) ∧ (Cond.fieldLink own idx (T k).1 (T k).2.1 (T k).2.2.1 ∈ fx_TB ∨ (∃ host, Cond.fieldLinkNest own idx (T k).1 (T k).2.1 (T k).2.2.1 host ∈ fx_NW) ∨ ∃ ref, Cond.fieldLink own idx ref (T k).2.1 (T k).2.2.1 ∈ fx_TB ∧ Cond.sameField ref (T k).1 (T k).2.1 (T k).2.2.1 ∈ fx_TB)
def fx_fp (own : String) (idx ci k : Nat) (ty : FieldType) (fin : Bool) : Prop := ∃ (C : String) (T : u_T) (N : Nat) (ty0 : Nat → FieldType), vwCl[ci]? = some (C, T, N) ∧ k < N ∧ (∀ w ∈ u_ws C T N, w ∈ fx_TB) ∧ (∀ k, k < N → parseFieldDescriptor (T k).2.2.1 = some (ty0 k)) ∧ (∀ a, a < N → ∀ b, b < N → a ≠ b → (T a).2.1 ≠ (T b).2.1) ∧ (T k).2.2.2 = fin ∧ parseFieldDescriptor (T k).2.2.1 = some ty ∧ (fin = true → (T k).1 = own) ∧ (Cond.fieldLink own idx (T k).1 (T k).2.1 (T k).2.2.1 ∈ fx_TB ∨ (fin = false ∧ ∃ host, Cond.fieldLinkNest own idx (T k).1 (T k).2.1 (T k).2.2.1 host ∈ fx_NW))
theorem aw_get {i ci kk idx : Nat} {fs : List Value} {v : Value} (hd : decode J.2.1 pc = .ok (.getfield idx, 3)) (hf : fx_fl J.1.cls idx ci kk) (he : V i = cO ci fs) (hi : i < N) (hv : fs[kk]? = some v) (h : AW l D b J R X FQ (pc + 3) ls (v :: st) N V k n) : AW l D b J R X FQ pc ls (.ref (b + i) :: st) N V k n := by
  intro p e s m args below meth c H locs arr hC hL hA hS
  obtain ⟨hx, hb, hr, hml, hown, hts, hlk, hnm, hK, hsz, hX, hNS⟩ := id hC
  obtain ⟨C, T, N, hc, hk, hin, hl⟩ := hf
  rcases hl with hl | ⟨host, hl⟩ | ⟨ref, hl, hsm⟩
  · exact va_get hx hb hts (fun w hw => List.mem_cons_of_mem _ (hin w hw)) hown hK (va_one hA hi he) 0 rfl hc kk hk (hts _ (List.mem_cons_of_mem _ hl)) (fun x hx => hx) hv hd (h p e s m args below meth c H locs arr hC hL hA hS)
  · exact va_getN (host := host) hx hb hts (fun w hw => List.mem_cons_of_mem _ (hin w hw)) hown hK (va_one hA hi he) 0 rfl hc kk hk (hNS.use hl) (fun x hx => hx) hv hd (h p e s m args below meth c H locs arr hC hL hA hS)
  · exact va_get hx hb hts (fun w hw => List.mem_cons_of_mem _ (hin w hw)) hown hK (va_one hA hi he) 0 rfl hc kk hk (hts _ (List.mem_cons_of_mem _ hl)) (fun x hx => u_same (hts _ (List.mem_cons_of_mem _ hsm)) x hx) hv hd (h p e s m args below meth c H locs arr hC hL hA hS)
theorem aw_put {i ci kk idx : Nat} {fs fs' : List Value} {v : Value} {ty : FieldType} (hd : decode J.2.1 pc = .ok (.putfield idx, 3)) (hf : fx_fp J.1.cls idx ci kk ty false) (he : V i = cO ci fs) (hi : i < N) (hn : narrow ty v = v) (hfit : fits ty v = true) (hl : kk < fs.length) (hs : fs.set kk v = fs') (h : AW l D b J R X FQ (pc + 3) ls st N (va_up V i (cO ci fs')) k n) : AW l D b J R X FQ pc ls (v :: .ref (b + i) :: st) N V k n := by
  intro p e s m args below meth c H locs arr hC hL hA hS
  obtain ⟨hx, hb, hr, hml, hown, hts, hlk, hnm, hK, hsz, hX, hNS⟩ := id hC
  obtain ⟨C, T, N9, ty0, hc, hk, hin, hty, hnm2, hfin, hpd, hdec, hlk2⟩ := hf
  subst hs
  have hin' : ∀ w ∈ u_ws C T N9, w ∈ fx_ws J := fun w hw => List.mem_cons_of_mem _ (hin w hw)
  have hap := va_apart (own := J.1.cls) hts hin' ty0 hty hnm2 hK hc
  obtain ⟨r, h1, cell, q1, q2, q3, q4⟩ := va_one hA hi he 0 _ rfl
  have hr9 : r = (C, T, N9) := Option.some.inj (h1.symm.trans hc)
  subst hr9
  obtain ⟨hS9, hfc, kC, hkC, hkind⟩ := hK.1 ci _ hc
  obtain ⟨cf, kf, fi, f9, hi9, hsl⟩ := hS9 kk hk
  have hlay := hts _ (hin' _ (u_in_lay hk))
  unfold u_lay at hlay
  have hst := (u_facts hfc hkC (u_lays hts hin' hk) hi9).1
  rw [if_neg (by rw [hfin]; decide)] at hlay
  have h6 := u_store hfc hkC hkind hlay hi9 hpd hn hfit
  rcases hlk2 with hl2 | ⟨-, host, hl2⟩
  · refine W.putK hx hb (f := f9) ⟨hown, hts _ (List.mem_cons_of_mem _ hl2), ⟨_, _, _, hi9⟩, hst⟩ (by rw [q2]; exact h6) q1 q3 (by rw [hsl]; exact k2_hasslot (q4 kk hk)) rfl rfl hd fun H' e1 e2 e3 => ?_
    rw [hsl] at e1 ⊢
    exact h p e s m args below meth c H' _ arr hC hL (hA.set ⟨_, hc, t_OB.to (V := updV (vp_V fs) kk v) ⟨_, e1, q2, q3, t_set q4 hap hk v⟩ (fun j _ => vp_updV_set hl v j)⟩ e2 e3) (hS.put e2 e3 (Nat.le_add_right b i))
  · refine va_WputK hx hb (f := f9) hown (hNS.use hl2) hi9 hst (by rw [q2]; exact h6) q1 q3 (by rw [hsl]; exact k2_hasslot (q4 kk hk)) rfl rfl hd fun H' e1 e2 e3 => ?_
    rw [hsl] at e1 ⊢
    exact h p e s m args below meth c H' _ arr hC hL (hA.set ⟨_, hc, t_OB.to (V := updV (vp_V fs) kk v) ⟨_, e1, q2, q3, t_set q4 hap hk v⟩ (fun j _ => vp_updV_set hl v j)⟩ e2 e3) (hS.put e2 e3 (Nat.le_add_right b i))
theorem aw_putF {i ci kk idx : Nat} {fs fs' : List Value} {v : Value} {ty : FieldType} (hd : decode J.2.1 pc = .ok (.putfield idx, 3)) (hf : fx_fp J.1.cls idx ci kk ty true) (hini : J.1.name = "<init>") (he : V i = cO ci fs) (hi : i < N) (hn : narrow ty v = v) (hfit : fits ty v = true) (hl : kk < fs.length) (hs : fs.set kk v = fs') (h : AW l D b J R X FQ (pc + 3) ls st N (va_up V i (cO ci fs')) k n) : AW l D b J R X FQ pc ls (v :: .ref (b + i) :: st) N V k n := by
  intro p e s m args below meth c H locs arr hC hL hA hS
  obtain ⟨hx, hb, hr, hml, hown, hts, hlk, hnm, hK, hsz, hX, hNS⟩ := id hC
  obtain ⟨C, T, N9, ty0, hc, hk, hin, hty, hnm2, hfin, hpd, hdec, hlk2⟩ := hf
  subst hs
  have hin' : ∀ w ∈ u_ws C T N9, w ∈ fx_ws J := fun w hw => List.mem_cons_of_mem _ (hin w hw)
  have hap := va_apart (own := J.1.cls) hts hin' ty0 hty hnm2 hK hc
  obtain ⟨r, h1, cell, q1, q2, q3, q4⟩ := va_one hA hi he 0 _ rfl
  have hr9 : r = (C, T, N9) := Option.some.inj (h1.symm.trans hc)
  subst hr9
  obtain ⟨hS9, hfc, kC, hkC, hkind⟩ := hK.1 ci _ hc
  obtain ⟨cf, kf, fi, f9, hi9, hsl⟩ := hS9 kk hk
  have hlay := hts _ (hin' _ (u_in_lay hk))
  unfold u_lay at hlay
  have hst := (u_facts hfc hkC (u_lays hts hin' hk) hi9).1
  rw [if_pos hfin] at hlay
  have hcf : m.cls = cf := by
    obtain ⟨_, _, c', _, _, _, -, -, hf', -, -, -, hown2, -⟩ := Cond.laysFinal_spec hlay
    have e1 : c' = cf := by have := hi9.symm.trans hf'; simp at this; exact this.1.symm
    rw [hdec rfl] at hown2
    rw [← e1]; exact Option.some.inj (hown.symm.trans hown2)
  have h6 := u_fits hfc hkC hkind (Or.inr hlay) hi9 hpd hn hfit
  rcases hlk2 with hl2 | ⟨h9, -⟩
  · refine W.putFinK hx hb hown (hts _ (List.mem_cons_of_mem _ hl2)) hi9 hst hcf (hnm.trans hini) (by rw [q2]; exact h6) q1 q3 (by rw [hsl]; exact k2_hasslot (q4 kk hk)) rfl rfl hd fun H' e1 e2 e3 => ?_
    rw [hsl] at e1 ⊢
    exact h p e s m args below meth c H' _ arr hC hL (hA.set ⟨_, hc, t_OB.to (V := updV (vp_V fs) kk v) ⟨_, e1, q2, q3, t_set q4 hap hk v⟩ (fun j _ => vp_updV_set hl v j)⟩ e2 e3) (hS.put e2 e3 (Nat.le_add_right b i))
  · cases h9
def fx_nw (own : String) (idx ci : Nat) (fs : List Value) : Prop := ∃ (C : String) (T : u_T) (N : Nat) (ty : Nat → FieldType), vwCl[ci]? = some (C, T, N) ∧ (∀ w ∈ u_ws C T N, w ∈ fx_TB) ∧ (∀ k, k < N → parseFieldDescriptor (T k).2.2.1 = some (ty k)) ∧ Cond.classLink own idx C ∈ fx_TB ∧ Cond.instantiable C N ∈ fx_TB ∧ Cond.initialized C ∈ fx_TB ∧ (∀ j, j < N → defaultValue (ty j) = vp_V fs j) ∧ fs.length = N
/-! arrays -/
theorem aw_iald {a n9 : Nat} {g : Nat → Int32} {i : Int32} {v : Int32} (hd : decode J.2.1 pc = .ok (.iaload, 1)) (he : V a = cI D n9 g) (hi : a < N) (hin : vp_in i n9) (hv : g i.toNatClampNeg = v) (h : AW l D b J R X FQ (pc + 1) ls (.int v :: st) N V k n) : AW l D b J R X FQ pc ls (.int i :: .ref (b + a) :: st) N V k n := by
  intro p e s m args below meth c H locs arr hC hL hA hS
  obtain ⟨hx, hb, hr, hml, hown, hts, hlk, hnm, hK, hsz, hX, hNS⟩ := id hC
  subst hv
  exact va_iald hx hb hK (va_one hA hi he) 0 0 rfl rfl hin hd (h p e s m args below meth c H locs arr hC hL hA hS)
theorem aw_bald {a n9 : Nat} {g : Nat → Int32} {i : Int32} {v : Int32} (hd : decode J.2.1 pc = .ok (.baload, 1)) (he : V a = cB D n9 g) (hi : a < N) (hin : vp_in i n9) (hv : g i.toNatClampNeg = v) (h : AW l D b J R X FQ (pc + 1) ls (.int v :: st) N V k n) : AW l D b J R X FQ pc ls (.int i :: .ref (b + a) :: st) N V k n := by
  intro p e s m args below meth c H locs arr hC hL hA hS
  obtain ⟨hx, hb, hr, hml, hown, hts, hlk, hnm, hK, hsz, hX, hNS⟩ := id hC
  subst hv
  exact va_bald hx hb hK (va_one hA hi he) 0 2 rfl rfl hin hd (h p e s m args below meth c H locs arr hC hL hA hS)
theorem aw_zald {a n9 : Nat} {g : Nat → Int32} {i : Int32} {v : Int32} (hd : decode J.2.1 pc = .ok (.baload, 1)) (he : V a = cZ D n9 g) (hi : a < N) (hin : vp_in i n9) (hv : g i.toNatClampNeg = v) (h : AW l D b J R X FQ (pc + 1) ls (.int v :: st) N V k n) : AW l D b J R X FQ pc ls (.int i :: .ref (b + a) :: st) N V k n := by
  intro p e s m args below meth c H locs arr hC hL hA hS
  obtain ⟨hx, hb, hr, hml, hown, hts, hlk, hnm, hK, hsz, hX, hNS⟩ := id hC
  subst hv
  exact va_zald hx hb hK (va_one hA hi he) 0 3 rfl rfl hin hd (h p e s m args below meth c H locs arr hC hL hA hS)
theorem aw_lald {a n9 : Nat} {g : Nat → Int64} {i : Int32} {v : Int64} (hd : decode J.2.1 pc = .ok (.laload, 1)) (he : V a = cJ D n9 g) (hi : a < N) (hin : vp_in i n9) (hv : g i.toNatClampNeg = v) (h : AW l D b J R X FQ (pc + 1) ls (.long v :: st) N V k n) : AW l D b J R X FQ pc ls (.int i :: .ref (b + a) :: st) N V k n := by
  intro p e s m args below meth c H locs arr hC hL hA hS
  obtain ⟨hx, hb, hr, hml, hown, hts, hlk, hnm, hK, hsz, hX, hNS⟩ := id hC
  subst hv
  exact va_lald hx hb hK (va_one hA hi he) 0 1 rfl rfl hin hd (h p e s m args below meth c H locs arr hC hL hA hS)
theorem aw_iast {a n9 : Nat} {g : Nat → Int32} {i : Int32} {x : Int32} (hd : decode J.2.1 pc = .ok (.iastore, 1)) (he : V a = cI D n9 g) (hi : a < N) (hin : vp_in i n9) (h : AW l D b J R X FQ (pc + 1) ls st N (va_up V a (cI D n9 (upd g i.toNatClampNeg x))) k n) : AW l D b J R X FQ pc ls (.int x :: .int i :: .ref (b + a) :: st) N V k n := by
  intro p e s m args below meth c H locs arr hC hL hA hS
  obtain ⟨hx, hb, hr, hml, hown, hts, hlk, hnm, hK, hsz, hX, hNS⟩ := id hC
  refine W.iast hx hb (va_one hA hi he 0 _ rfl) ((hK.2 0 _ rfl).1 n9 (fun j => .int (g j))) (fun q => by cases q) (by show ¬ (i < 0 ∨ (arrV _ _ _).slots.size ≤ _); rw [arrV_size]; exact hin) rfl rfl hd fun H1 e9 z oq => ?_
  refine h p e s m args below meth c H1 _ arr hC hL (hA.set ?_ z oq) (hS.put z oq (Nat.le_add_right b a))
  show H1[b + a]? = some (vp_cell _ _)
  rw [e9]
  rw [vp_cell_i, vp_cell_i, arrV_store]
  congr 2
  funext q
  by_cases hq : q = i.toNatClampNeg
  · subst hq
    simp [updV, upd]
  · simp [updV, upd, hq]
theorem aw_bast {a n9 : Nat} {g : Nat → Int32} {i : Int32} {x : Int32} (hd : decode J.2.1 pc = .ok (.bastore, 1)) (he : V a = cB D n9 g) (hi : a < N) (hin : vp_in i n9) (h : AW l D b J R X FQ (pc + 1) ls st N (va_up V a (cB D n9 (upd g i.toNatClampNeg (vp_nar .byte x)))) k n) : AW l D b J R X FQ pc ls (.int x :: .int i :: .ref (b + a) :: st) N V k n := by
  intro p e s m args below meth c H locs arr hC hL hA hS
  obtain ⟨hx, hb, hr, hml, hown, hts, hlk, hnm, hK, hsz, hX, hNS⟩ := id hC
  refine W.bast hx hb (va_one hA hi he 0 _ rfl) ((hK.2 2 _ rfl).1 n9 (fun j => .int (g j))) (fun q => by cases q) (by show ¬ (i < 0 ∨ (arrV _ _ _).slots.size ≤ _); rw [arrV_size]; exact hin) rfl rfl hd fun H1 e9 z oq => ?_
  refine h p e s m args below meth c H1 _ arr hC hL (hA.set ?_ z oq) (hS.put z oq (Nat.le_add_right b a))
  show H1[b + a]? = some (vp_cell _ _)
  rw [e9]
  rw [vp_cell_i, vp_cell_i, arrV_store]
  congr 2
  funext q
  by_cases hq : q = i.toNatClampNeg
  · subst hq
    simp [updV, upd, vp_nar]
    try rfl
  · simp [updV, upd, hq]
theorem aw_zast {a n9 : Nat} {g : Nat → Int32} {i : Int32} {x : Int32} (hd : decode J.2.1 pc = .ok (.bastore, 1)) (he : V a = cZ D n9 g) (hi : a < N) (hin : vp_in i n9) (h : AW l D b J R X FQ (pc + 1) ls st N (va_up V a (cZ D n9 (upd g i.toNatClampNeg (vp_nar .boolean x)))) k n) : AW l D b J R X FQ pc ls (.int x :: .int i :: .ref (b + a) :: st) N V k n := by
  intro p e s m args below meth c H locs arr hC hL hA hS
  obtain ⟨hx, hb, hr, hml, hown, hts, hlk, hnm, hK, hsz, hX, hNS⟩ := id hC
  refine W.zast hx hb (va_one hA hi he 0 _ rfl) ((hK.2 3 _ rfl).1 n9 (fun j => .int (g j))) (fun q => by cases q) (by show ¬ (i < 0 ∨ (arrV _ _ _).slots.size ≤ _); rw [arrV_size]; exact hin) rfl rfl hd fun H1 e9 z oq => ?_
  refine h p e s m args below meth c H1 _ arr hC hL (hA.set ?_ z oq) (hS.put z oq (Nat.le_add_right b a))
  show H1[b + a]? = some (vp_cell _ _)
  rw [e9]
  rw [vp_cell_i, vp_cell_i, arrV_store]
  congr 2
  funext q
  by_cases hq : q = i.toNatClampNeg
  · subst hq
    simp [updV, upd, vp_nar]
    try rfl
  · simp [updV, upd, hq]
theorem aw_last {a n9 : Nat} {g : Nat → Int64} {i : Int32} {x : Int64} (hd : decode J.2.1 pc = .ok (.lastore, 1)) (he : V a = cJ D n9 g) (hi : a < N) (hin : vp_in i n9) (h : AW l D b J R X FQ (pc + 1) ls st N (va_up V a (cJ D n9 (vp_updL g i.toNatClampNeg x))) k n) : AW l D b J R X FQ pc ls (.long x :: .int i :: .ref (b + a) :: st) N V k n := by
  intro p e s m args below meth c H locs arr hC hL hA hS
  obtain ⟨hx, hb, hr, hml, hown, hts, hlk, hnm, hK, hsz, hX, hNS⟩ := id hC
  refine W.last hx hb (va_one hA hi he 0 _ rfl) ((hK.2 1 _ rfl).1 n9 (fun j => .long (g j))) (fun q => by cases q) (by show ¬ (i < 0 ∨ (arrV _ _ _).slots.size ≤ _); rw [arrV_size]; exact hin) rfl rfl hd fun H1 e9 z oq => ?_
  refine h p e s m args below meth c H1 _ arr hC hL (hA.set ?_ z oq) (hS.put z oq (Nat.le_add_right b a))
  show H1[b + a]? = some (vp_cell _ _)
  rw [e9]
  rw [vp_cell_l, vp_cell_l, arrV_store]
  congr 2
  funext q
  by_cases hq : q = i.toNatClampNeg
  · subst hq
    simp [updV, vp_updL]
  · simp [updV, vp_updL, hq]
theorem aw_aald {a n9 r : Nat} {g : Nat → Option Nat} {i : Int32} (hd : decode J.2.1 pc = .ok (.aaload, 1)) (he : V a = cR D n9 g) (hi : a < N) (hin : vp_in i n9) (hv : g i.toNatClampNeg = some r) (h : AW l D b J R X FQ (pc + 1) ls (.ref r :: st) N V k n) : AW l D b J R X FQ pc ls (.int i :: .ref (b + a) :: st) N V k n := by
  intro p e s m args below meth c H locs arr hC hL hA hS
  obtain ⟨hx, hb, hr, hml, hown, hts, hlk, hnm, hK, hsz, hX, hNS⟩ := id hC
  have hlt : i.toNatClampNeg < n9 := Nat.not_le.mp fun q => hin (Or.inr q)
  have hP := va_one hA hi he
  exact W.aald (v := .ref r) (ty := .array .int) hx hb (hP 0 _ rfl) ((hK.2 4 _ rfl).1 n9 (fun j => va_rf (g j))) rfl (fun q => by cases q) (by show ¬ (i < 0 ∨ (arrV _ _ _).slots.size ≤ _); rw [arrV_size]; exact hin) (by show (arrV _ _ _).slots[_]? = _; rw [arrV_read _ _ hlt, hv]; rfl) rfl rfl hd (h p e s m args below meth c H locs arr hC hL hA hS)
theorem aw_alen {i : Nat} {cA : ClassId} {x : vp_A} {t0 : Nat} {ty : FieldType} {v : Int32} (hd : decode J.2.1 pc = .ok (.arraylength, 1)) (he : V i = .inl (cA, x)) (hi : i < N) (ht : (fx_ty D)[t0]? = some (cA, ty)) (hv : Int32.ofNat x.1 = v) (h : AW l D b J R X FQ (pc + 1) ls (.int v :: st) N V k n) : AW l D b J R X FQ pc ls (.ref (b + i) :: st) N V k n := by
  intro p e s m args below meth c H locs arr hC hL hA hS
  obtain ⟨hx, hb, hr, hml, hown, hts, hlk, hnm, hK, hsz, hX, hNS⟩ := id hC
  subst hv
  exact va_alen hx hb hK (va_one hA hi he) 0 t0 rfl ht rfl hd (h p e s m args below meth c H locs arr hC hL hA hS)
theorem aw_sld {b9 L : Nat} {xs : Nat → Int32} {i : Int32} (hd : decode J.2.1 pc = .ok (.iaload, 1)) (he : X = some (b9, L, xs)) (hin : vp_in i L) (h : AW l D b J R X FQ (pc + 1) ls (.int (xs i.toNatClampNeg) :: st) N V k n) : AW l D b J R X FQ pc ls (.int i :: .ref b9 :: st) N V k n := by
  intro p e s m args below meth c H locs arr hC hL hA hS
  obtain ⟨hx, hb, hr, hml, hown, hts, hlk, hnm, hK, hsz, hX, hNS⟩ := id hC
  obtain ⟨x1, x2, x3⟩ := hX b9 L xs he
  exact va_sld hx hb x1 x2 x3 hS hin hd (h p e s m args below meth c H locs arr hC hL hA hS)
theorem aw_slen {b9 L : Nat} {xs : Nat → Int32} (hd : decode J.2.1 pc = .ok (.arraylength, 1)) (he : X = some (b9, L, xs)) (h : AW l D b J R X FQ (pc + 1) ls (.int (Int32.ofNat L) :: st) N V k n) : AW l D b J R X FQ pc ls (.ref b9 :: st) N V k n := by
  intro p e s m args below meth c H locs arr hC hL hA hS
  obtain ⟨hx, hb, hr, hml, hown, hts, hlk, hnm, hK, hsz, hX, hNS⟩ := id hC
  obtain ⟨x1, x2, x3⟩ := hX b9 L xs he
  exact va_slen hx hb x1 x2 x3 hS hd (h p e s m args below meth c H locs arr hC hL hA hS)
theorem aw_new {ci idx : Nat} {fs : List Value} (hd : decode J.2.1 pc = .ok (.new idx, 3)) (hn : fx_nw J.1.cls idx ci fs) (hk1 : k + 1 ≤ R.cells) (hs1 : n + fs.length ≤ R.slots) (h : AW l D b J R X FQ (pc + 3) ls (.ref (b + N) :: st) (N + 1) (va_up V N (cO ci fs)) (k + 1) (n + fs.length)) : AW l D b J R X FQ pc ls st N V k n := by
  intro p e s m args below meth c H locs arr hC hL hA hS
  obtain ⟨hx, hb, hr, hml, hown, hts, hlk, hnm, hK, hsz, hX, hNS⟩ := id hC
  obtain ⟨C, T, N9, ty, hc, hin, hty, h1, h2, h3, h4, h5⟩ := hn
  subst h5
  have hin' : ∀ w ∈ u_ws C T fs.length, w ∈ fx_ws J := fun w hw => List.mem_cons_of_mem _ (hin w hw)
  have hKn := hK.1 ci _ hc
  refine W.newcK hx hb hown (hts _ (List.mem_cons_of_mem _ h1)) (hts _ (List.mem_cons_of_mem _ h2)) (hts _ (List.mem_cons_of_mem _ h3)) rfl hd hk1 hs1 hKn.2.1 rfl fun H1 kC hkC e1 z1 o1 => ?_
  have hsz := hA.1
  rw [hsz] at e1 ⊢
  exact h p e s m args below meth c H1 locs arr hC hL (hA.push ⟨_, hc, (u_born ty hts hin' hKn hkC e1 hty).to h4⟩ z1 o1) ⟨Nat.le_trans hS.1 (by omega), fun x g1 g2 => (o1 x (Nat.lt_of_lt_of_le g1 hS.1)).trans (hS.2.1 x g1 g2), hS.2.2⟩
theorem aw_newaI {len : Int32} {n9 : Nat} (hd : decode J.2.1 pc = .ok (.newarray .int, 2)) (hw : Cond.arrayClass .int ∈ fx_TB) (h0 : ¬ len < 0) (hN : len.toNatClampNeg = n9) (hb9 : n9 * 8 ≤ 536870912) (hk1 : k + 1 ≤ R.cells) (hs1 : n + n9 ≤ R.slots) (h : AW l D b J R X FQ (pc + 2) ls (.ref (b + N) :: st) (N + 1) (va_up V N (cI D n9 (fun _ => 0))) (k + 1) (n + n9)) : AW l D b J R X FQ pc ls (.int len :: st) N V k n := by
  intro p e s m args below meth c H locs arr hC hL hA hS
  obtain ⟨hx, hb, hr, hml, hown, hts, hlk, hnm, hK, hsz, hX, hNS⟩ := id hC
  have hsz := hA.1
  refine va_newaK (atype := .int) hx hb (hts _ (List.mem_cons_of_mem _ hw)) rfl hd rfl h0 hN (by simp [componentBytes, newarray.typeOf]; omega) hk1 hs1 hsz fun H1 cA e1 z1 o1 hAr hNm => ?_
  have e2 := (hK.2 0 _ rfl).2
  have e3 : some cA = some (D.1 100) := hNm.symm.trans e2
  cases e3
  refine h p e s m args below meth c H1 locs arr hC hL (hA.push ?_ (by omega) (fun q hq => o1 q (by omega))) ⟨Nat.le_trans hS.1 (by omega), fun x g1 g2 => (o1 x (by have := Nat.lt_of_lt_of_le g1 hS.1; omega)).trans (hS.2.1 x g1 g2), hS.2.2⟩
  exact e1
theorem aw_newaJ {len : Int32} {n9 : Nat} (hd : decode J.2.1 pc = .ok (.newarray .long, 2)) (hw : Cond.arrayClass .long ∈ fx_TB) (h0 : ¬ len < 0) (hN : len.toNatClampNeg = n9) (hb9 : n9 * 8 ≤ 536870912) (hk1 : k + 1 ≤ R.cells) (hs1 : n + n9 ≤ R.slots) (h : AW l D b J R X FQ (pc + 2) ls (.ref (b + N) :: st) (N + 1) (va_up V N (cJ D n9 (fun _ => 0))) (k + 1) (n + n9)) : AW l D b J R X FQ pc ls (.int len :: st) N V k n := by
  intro p e s m args below meth c H locs arr hC hL hA hS
  obtain ⟨hx, hb, hr, hml, hown, hts, hlk, hnm, hK, hsz, hX, hNS⟩ := id hC
  have hsz := hA.1
  refine va_newaK (atype := .long) hx hb (hts _ (List.mem_cons_of_mem _ hw)) rfl hd rfl h0 hN (by simp [componentBytes, newarray.typeOf]; omega) hk1 hs1 hsz fun H1 cA e1 z1 o1 hAr hNm => ?_
  have e2 := (hK.2 1 _ rfl).2
  have e3 : some cA = some (D.1 101) := hNm.symm.trans e2
  cases e3
  refine h p e s m args below meth c H1 locs arr hC hL (hA.push ?_ (by omega) (fun q hq => o1 q (by omega))) ⟨Nat.le_trans hS.1 (by omega), fun x g1 g2 => (o1 x (by have := Nat.lt_of_lt_of_le g1 hS.1; omega)).trans (hS.2.1 x g1 g2), hS.2.2⟩
  exact e1
theorem aw_newaB {len : Int32} {n9 : Nat} (hd : decode J.2.1 pc = .ok (.newarray .byte, 2)) (hw : Cond.arrayClass .byte ∈ fx_TB) (h0 : ¬ len < 0) (hN : len.toNatClampNeg = n9) (hb9 : n9 * 8 ≤ 536870912) (hk1 : k + 1 ≤ R.cells) (hs1 : n + n9 ≤ R.slots) (h : AW l D b J R X FQ (pc + 2) ls (.ref (b + N) :: st) (N + 1) (va_up V N (cB D n9 (fun _ => 0))) (k + 1) (n + n9)) : AW l D b J R X FQ pc ls (.int len :: st) N V k n := by
  intro p e s m args below meth c H locs arr hC hL hA hS
  obtain ⟨hx, hb, hr, hml, hown, hts, hlk, hnm, hK, hsz, hX, hNS⟩ := id hC
  have hsz := hA.1
  refine va_newaK (atype := .byte) hx hb (hts _ (List.mem_cons_of_mem _ hw)) rfl hd rfl h0 hN (by simp [componentBytes, newarray.typeOf]; omega) hk1 hs1 hsz fun H1 cA e1 z1 o1 hAr hNm => ?_
  have e2 := (hK.2 2 _ rfl).2
  have e3 : some cA = some (D.1 102) := hNm.symm.trans e2
  cases e3
  refine h p e s m args below meth c H1 locs arr hC hL (hA.push ?_ (by omega) (fun q hq => o1 q (by omega))) ⟨Nat.le_trans hS.1 (by omega), fun x g1 g2 => (o1 x (by have := Nat.lt_of_lt_of_le g1 hS.1; omega)).trans (hS.2.1 x g1 g2), hS.2.2⟩
  exact e1
theorem aw_newaZ {len : Int32} {n9 : Nat} (hd : decode J.2.1 pc = .ok (.newarray .boolean, 2)) (hw : Cond.arrayClass .boolean ∈ fx_TB) (h0 : ¬ len < 0) (hN : len.toNatClampNeg = n9) (hb9 : n9 * 8 ≤ 536870912) (hk1 : k + 1 ≤ R.cells) (hs1 : n + n9 ≤ R.slots) (h : AW l D b J R X FQ (pc + 2) ls (.ref (b + N) :: st) (N + 1) (va_up V N (cZ D n9 (fun _ => 0))) (k + 1) (n + n9)) : AW l D b J R X FQ pc ls (.int len :: st) N V k n := by
  intro p e s m args below meth c H locs arr hC hL hA hS
  obtain ⟨hx, hb, hr, hml, hown, hts, hlk, hnm, hK, hsz, hX, hNS⟩ := id hC
  have hsz := hA.1
  refine va_newaK (atype := .boolean) hx hb (hts _ (List.mem_cons_of_mem _ hw)) rfl hd rfl h0 hN (by simp [componentBytes, newarray.typeOf]; omega) hk1 hs1 hsz fun H1 cA e1 z1 o1 hAr hNm => ?_
  have e2 := (hK.2 3 _ rfl).2
  have e3 : some cA = some (D.1 103) := hNm.symm.trans e2
  cases e3
  refine h p e s m args below meth c H1 locs arr hC hL (hA.push ?_ (by omega) (fun q hq => o1 q (by omega))) ⟨Nat.le_trans hS.1 (by omega), fun x g1 g2 => (o1 x (by have := Nat.lt_of_lt_of_le g1 hS.1; omega)).trans (hS.2.1 x g1 g2), hS.2.2⟩
  exact e1
theorem aw_mna {idx : Nat} {rn ck : Int32} {N9 K9 : Nat} (hd : decode J.2.1 pc = .ok (.multianewarray idx 2, 4)) (hw : Cond.arrayClass .int ∈ fx_TB) (hv : Cond.arrayOver (.array .int) ∈ fx_NW) (hcl : Cond.classLink J.1.cls idx "[[I" ∈ fx_TB) (h0 : ¬ rn < 0) (h1 : ¬ ck < 0) (hN : rn.toNatClampNeg = N9) (hM : ck.toNatClampNeg = K9) (hb1 : N9 * 4 ≤ 536870912) (hb2 : K9 * 4 ≤ 536870912) (hk1 : k + (1 + N9) ≤ R.cells) (hs1 : n + (N9 + N9 * K9) ≤ R.slots) (h : AW l D b J R X FQ (pc + 4) ls (.ref (b + N) :: st) (N + (1 + N9)) (fun i => if i = N then cR D N9 (fun j => if j < N9 then some (b + (N + 1 + j)) else none) else if N < i ∧ i < N + (1 + N9) then cI D K9 (fun _ => 0) else V i) (k + 1 + N9) (n + N9 + N9 * K9)) : AW l D b J R X FQ pc ls (.int ck :: .int rn :: st) N V k n := by
  intro p e s m args below meth c H locs arr hC hL hA hS
  obtain ⟨hx, hb, hr, hml, hown, hts, hlk, hnm, hK, hsz, hX, hNS⟩ := id hC
  subst hN
  subst hM
  intro T hT Xs
  obtain ⟨vm₁, cA, comp, -, fA, fC, hO, -, X', step⟩ := Xs.multianewarray2F hx (ty := .int) hown (hts _ (List.mem_cons_of_mem _ hcl)) (hNS.use hv) (hts _ (List.mem_cons_of_mem _ hw)) (g := F0 m pc arr (.int ck :: .int rn :: st)) rfl (by rw [hb]; exact hd) rfl h0 h1 hb1 hb2 (by omega) rfl rfl hk1 hs1
  have e2 := (hK.2 4 _ rfl).2
  have e3 : some cA = some (D.1 104) := fA.symm.trans e2
  cases e3
  have e4 := (hK.2 0 _ rfl).2
  have e5 : some comp = some (D.1 100) := fC.symm.trans e4
  cases e5
  generalize hF : Jvm.Free.Multi.fill (T.setVm vm₁) (D.1 104) (D.1 100) rn.toNatClampNeg ck.toNatClampNeg (defaultValue .int) rn.toNatClampNeg = F at X' step
  have hTh : (T.setVm vm₁).heap = H := hT
  obtain ⟨f1, f2, -, -⟩ := Jvm.Free.Multi.fill_facts (T.setVm vm₁) (D.1 104) (D.1 100) rn.toNatClampNeg ck.toNatClampNeg (defaultValue .int) rn.toNatClampNeg
  rw [hF, hTh] at f1 f2
  have hold : ∀ x : Nat, x < H.size → F.heap[x]? = H[x]? := fun x hx => by
    have := Jvm.Free.Multi.fill_old (T.setVm vm₁) (D.1 104) (D.1 100) rn.toNatClampNeg ck.toNatClampNeg (defaultValue .int) (a := x) (by rw [hTh]; exact hx) rn.toNatClampNeg
    rw [hF, hTh] at this
    exact this
  have hrow : ∀ j : Nat, j < rn.toNatClampNeg → F.heap[H.size + 1 + j]? = some (vp_cell (D.1 100) (ck.toNatClampNeg, .inl (fun _ => 0))) := fun j hj => by
    have := Jvm.Free.Multi.fill_inner (T.setVm vm₁) (D.1 104) (D.1 100) rn.toNatClampNeg ck.toNatClampNeg (defaultValue .int) rn.toNatClampNeg j hj
    rw [hF, hTh] at this
    rw [this, vp_cell_i, ← arrV_new]
    rfl
  have hout : Jvm.Free.Multi.outerC (D.1 104) rn.toNatClampNeg H.size rn.toNatClampNeg = vp_cell (D.1 104) (rn.toNatClampNeg, .inr (.inr (.inr (.inr (fun i => if i < rn.toNatClampNeg then some (H.size + 1 + i) else none))))) := by
    rw [vp_cell_q]
    exact vr_outer (D.1 104) rn.toNatClampNeg H.size rn.toNatClampNeg
  rw [hout] at f2
  have hsz := hA.1
  have hA2 : VA D b (N + (1 + rn.toNatClampNeg)) (fun i => if i = N then cR D rn.toNatClampNeg (fun j => if j < rn.toNatClampNeg then some (b + (N + 1 + j)) else none) else if N < i ∧ i < N + (1 + rn.toNatClampNeg) then cI D ck.toNatClampNeg (fun _ => 0) else V i) F.heap := by
    refine ⟨by rw [f1]; omega, fun i hi => ?_⟩
    by_cases c1 : i = N
    · subst c1
      simp only [if_pos rfl]
      show F.heap[b + i]? = _
      rw [← hsz, f2]
      refine congrArg some (congrArg _ ?_)
      refine congrArg (fun z => ((rn.toNatClampNeg, .inr (.inr (.inr (.inr z)))) : vp_A)) ?_
      funext j
      rw [hsz]
      by_cases hj : j < rn.toNatClampNeg
      · rw [if_pos hj, if_pos hj]; exact congrArg some (by omega)
      · rw [if_neg hj, if_neg hj]
    · by_cases c2 : N < i ∧ i < N + (1 + rn.toNatClampNeg)
      · simp only [if_neg c1, if_pos c2]
        show F.heap[b + i]? = _
        have := hrow (i - N - 1) (by omega)
        rw [show H.size + 1 + (i - N - 1) = b + i by omega] at this
        exact this
      · simp only [if_neg c1, if_neg c2]
        exact (hA.2 i (by omega)).kept (hold (b + i) (by show b + i < _; omega))
  obtain ⟨t, a1, b1⟩ := h p e s m args below meth c F.heap locs arr hC hL hA2 ⟨by rw [f1]; have := hS.1; omega, fun x h1 h2 => (hold x (Nat.lt_of_lt_of_le h1 hS.1)).trans (hS.2.1 x h1 h2), hS.2.2⟩ F rfl X'
  refine ⟨t, step t ?_, b1⟩
  have e : T.heap.size = b + N := by rw [hT]; exact hsz
  rw [e]
  exact a1
/-! calls -/
theorem fx_call {s : State} {p : Program} {e : Env} {m : MethodId} {args : Array Value} {below : List Frame} {meth : Method} {c : Code} {H : Heap} {locs : List Loc} {arr : Array Slot} {Qw : State → Prop} {Q : Option Value → Nat → Wd → Prop} {mc ms : Nat} {st0 rest : List Value} {a : Array Value}
    (hr : va_Run p l e R s m args below meth c H locs k n mc ms (F0 m pc arr st0) rest (fx_Q D b Q a) (fun q => b ≤ q)) (hS : va_S (fun q => b ≤ q) s.heap H locs)
    (kk : ∀ (v : Option Value) (N' : Nat) (V' : Wd), Q v N' V' → ∀ (H1 : Heap) (locs1 : List Loc), VA D b N' V' H1 → va_S (fun q => b ≤ q) s.heap H1 locs1 → Jvm.Pilot.@@N@@.W p l e R s m args below meth c H1 locs1 (k + mc) (n + ms) Qw (F0 m (pc + 3) arr (v.toList ++ rest))) : Jvm.Pilot.@@N@@.W p l e R s m args below meth c H locs k n Qw (F0 m pc arr st0) := by
  intro T hT X
  obtain ⟨v, st₀, t, T', L, h0, X', hL, e1, e2, ⟨⟨r, N', V', hv, hp, hb⟩, hz, hk⟩, st⟩ := hr T hT X
  cases hv
  rw [h0] at hz hk
  obtain ⟨t2, a1, b1⟩ := kk v N' V' hp T'.heap (locs ++ L) (by rw [e1]; exact hb)
    ⟨Nat.le_trans hS.1 (by rw [e1]; exact hz), fun q h1 h2 => by rw [e1, hk q (Nat.lt_of_lt_of_le h1 hS.1) h2]; exact hS.2.1 q h1 h2, fun q hq => by
      rcases List.mem_append.mp hq with h | h
      · exact hS.2.2 q h
      · exact hL q h⟩ T' rfl X'
  exact ⟨t2, st t2 a1, b1⟩
theorem fx_goodIn {J J' : Md} (hc : Cond.code J'.1 J'.2.1 J'.2.2.1 J'.2.2.2 ∈ fx_TB) {xs : List Cond} (hx : ∀ w ∈ xs, w ∈ fx_TB) : GoodIn (fx_ws J) (xs ++ fx_ws J') := by
  intro w hw
  have : w ∈ fx_TB := by
    rcases List.mem_append.mp hw with h | h
    · exact hx w h
    · rcases List.mem_cons.mp h with h | h
      · subst h; exact hc
      · exact h
  exact ⟨List.mem_cons_of_mem _ this, fx_good this⟩
theorem fx_blind {av : List Value} : FrameBlind (fx_P D b av N V) := fun a U g mk q => by
  obtain ⟨q0, q2, q3, q4⟩ := q
  exact ⟨q0, va_K.moved (u := U) (U := U.calling g mk a) (Vm.Alike.refl U.vm) q2, q3, q4.same (u := U) (U := U.calling g mk a) rfl⟩
theorem fx_pre {s : State} {H : Heap} {av : List Value} (hK : va_K D vwCl (fx_ty D) s) (hA : VA D b N V H) (hNS : fx_NS s) : ∀ U : State, U.heap = H → s.WarmedH U.vm → fx_P D b av N V av.toArray U := fun U hU hW => ⟨rfl, va_K.moved hW.alike hK, (by rw [hU]; exact hA), hNS.warm hW⟩
def fx_ok (J' : Md) (n : Nat) : Prop := Cond.code J'.1 J'.2.1 J'.2.2.1 J'.2.2.2 ∈ fx_TB ∧ Cond.initialized J'.1.cls ∈ fx_TB ∧ (J'.1.cls ≠ "java/lang/invoke/MethodHandle" ∧ J'.1.cls ≠ "java/lang/invoke/VarHandle" ∧ (parseMethodDescriptor J'.1.desc).map (fun d => d.parameters.length) = some n)
def fx_okV (J' : Md) (n : Nat) : Prop := fx_ok J' n ∧ Cond.instanceMethod J'.1 ∈ fx_TB ∧ Cond.selects J'.1.cls J'.1 J'.1 ∈ fx_TB
def fx_okS (J' : Md) (n : Nat) : Prop := fx_ok J' n ∧ Cond.static J'.1 ∈ fx_TB
def fx_okI (J' : Md) (n : Nat) : Prop := fx_ok J' n ∧ J'.1.name = "<init>" ∧ Cond.instanceMethod J'.1 ∈ fx_TB ∧ J'.2.2.2 = none
/-- the room that a call wants -/
def fx_rc (R : Room) (J' : Md) (d k n mc ms : Nat) : Prop := d + 2 ≤ R.frames ∧ 19 + J'.2.2.1 + 64 * (d + 1) ≤ R.locals ∧ k + mc ≤ R.cells ∧ n + ms ≤ R.slots
theorem aw_callV {J' : Md} {idx nn d mc ms : Nat} {As st0 : List Value} {Q : Option Value → Nat → Wd → Prop} {i ci : Nat} {fs : List Value} (hd : decode J.2.1 pc = .ok (.invokevirtual idx, 3)) (hl : Cond.methodLink J.1.cls idx J'.1 ∈ fx_TB) (hv : fx_okV J' nn) (he : V i = cO ci fs) (hi : i < N) (hc : (vwCl[ci]?).map (·.1) = some J'.1.cls) (hst : st0 = As.reverse ++ .ref (b + i) :: st) (hcall : MW l D b d J' (.ref (b + i) :: As) N V mc ms Q) (hn : As.length = nn) (hW : (st.map fun v => v.category).sum ≤ 8) (hrc : fx_rc R J' d k n mc ms) (h : ∀ (v : Option Value) (N' : Nat) (V' : Wd), Q v N' V' → AW l D b J R X FQ (pc + 3) ls (v.toList ++ st) N' V' (k + mc) (n + ms)) : AW l D b J R X FQ pc ls st0 N V k n := by
  intro p e s m args below meth c H locs arr hC hL hA hS
  obtain ⟨hx, hb, hr, hml, hown, hts, hlk, hnm, hK, hsz, hX, hNS⟩ := id hC
  obtain ⟨⟨g1, g2, g3⟩, g4, g5⟩ := hv
  subst hst
  have hT : GoodIn (fx_ws J) (wsV J.1.cls idx J'.1.cls J'.1 (fx_ws J')) := fx_goodIn g1 (fun w hw => by
    simp only [List.mem_cons, List.not_mem_nil, or_false] at hw
    rcases hw with rfl | rfl | rfl | rfl
    · exact hl
    · exact g4
    · exact g5
    · exact g2)
  obtain ⟨q9, hq9, hq8⟩ : ∃ q9, vwCl[ci]? = some q9 ∧ q9.1 = J'.1.cls := by
    cases hx9 : vwCl[ci]? with
    | none => rw [hx9] at hc; cases hc
    | some q9 => rw [hx9] at hc; exact ⟨q9, rfl, Option.some.inj hc⟩
  have hrecv := va_recv (q0 := 0) hK (va_one hA hi he) hq9 rfl
  rw [hq8] at hrecv
  exact fx_call (va_runV (As := As) (rest := st) ⟨hx, hb, hml, hown, hts⟩ hcall (cwV nn hts hT rfl rfl rfl ⟨rfl, g3⟩ ⟨hrc.1, by have := hrc.2.1; show 8 + (J'.2.2.1 + 11) + 64 * (d + 1) ≤ _; omega⟩) ⟨fx_blind, hrecv, fx_pre hK hA hNS⟩ rfl hn hL.1 rfl (lv_room hW) hd hrc.2.2) hS (fun v N' V' hq H1 locs1 hA1 hS1 => h v N' V' hq p e s m args below meth c H1 locs1 arr hC hL hA1 hS1)
theorem aw_callS {J' : Md} {idx nn d mc ms : Nat} {As st0 : List Value} {Q : Option Value → Nat → Wd → Prop} (hd : decode J.2.1 pc = .ok (.invokestatic idx, 3)) (hl : Cond.methodLink J.1.cls idx J'.1 ∈ fx_TB) (hv : fx_okS J' nn) (hst : st0 = As.reverse ++ st) (hcall : MW l D b d J' (As) N V mc ms Q) (hn : As.length = nn) (hW : (st.map fun v => v.category).sum ≤ 8) (hrc : fx_rc R J' d k n mc ms) (h : ∀ (v : Option Value) (N' : Nat) (V' : Wd), Q v N' V' → AW l D b J R X FQ (pc + 3) ls (v.toList ++ st) N' V' (k + mc) (n + ms)) : AW l D b J R X FQ pc ls st0 N V k n := by
  intro p e s m args below meth c H locs arr hC hL hA hS
  obtain ⟨hx, hb, hr, hml, hown, hts, hlk, hnm, hK, hsz, hX, hNS⟩ := id hC
  obtain ⟨⟨g1, g2, g3⟩, g4⟩ := hv
  subst hst
  exact fx_call (va_runS (As := As) (rest := st) ⟨hx, hb, hml, hown, hts⟩ hcall ⟨callB_of nn hts (fx_goodIn (xs := []) g1 (fun w hw => by cases hw)) rfl rfl rfl (hts _ (List.mem_cons_of_mem _ g2)) (hts _ (List.mem_cons_of_mem _ hl)) g3 ⟨hrc.1, by have := hrc.2.1; show 8 + (J'.2.2.1 + 11) + 64 * (d + 1) ≤ _; omega⟩, hts _ (List.mem_cons_of_mem _ g4)⟩ ⟨fx_blind, fx_pre hK hA hNS⟩ rfl hn hL.1 rfl (lv_room hW) hd hrc.2.2) hS (fun v N' V' hq H1 locs1 hA1 hS1 => h v N' V' hq p e s m args below meth c H1 locs1 arr hC hL hA1 hS1)
theorem aw_callSN {J' : Md} {idx nn d mc ms : Nat} {As st0 : List Value} {Q : Option Value → Nat → Wd → Prop} {host : String} (hd : decode J.2.1 pc = .ok (.invokestatic idx, 3)) (hl : Cond.methodLinkNest J.1.cls idx J'.1 host ∈ fx_NW) (hv : fx_okS J' nn) (hst : st0 = As.reverse ++ st) (hcall : MW l D b d J' (As) N V mc ms Q) (hn : As.length = nn) (hW : (st.map fun v => v.category).sum ≤ 8) (hrc : fx_rc R J' d k n mc ms) (h : ∀ (v : Option Value) (N' : Nat) (V' : Wd), Q v N' V' → AW l D b J R X FQ (pc + 3) ls (v.toList ++ st) N' V' (k + mc) (n + ms)) : AW l D b J R X FQ pc ls st0 N V k n := by
  intro p e s m args below meth c H locs arr hC hL hA hS
  obtain ⟨hx, hb, hr, hml, hown, hts, hlk, hnm, hK, hsz, hX, hNS⟩ := id hC
  obtain ⟨⟨g1, g2, g3⟩, g4⟩ := hv
  subst hst
  exact fx_call (va_runSN (As := As) (rest := st) ⟨hx, hb, hml, hown, hts⟩ hcall ⟨va_cnB nn hts (fx_goodIn (xs := []) g1 (fun w hw => by cases hw)) rfl rfl rfl (hNS _ hl) (hts _ (List.mem_cons_of_mem _ g2)) g3 ⟨hrc.1, by have := hrc.2.1; show 8 + (J'.2.2.1 + 11) + 64 * (d + 1) ≤ _; omega⟩, hts _ (List.mem_cons_of_mem _ g4), trivial⟩ ⟨fx_blind, fx_pre hK hA hNS⟩ rfl hn hL.1 rfl (lv_room hW) hd hrc.2.2) hS (fun v N' V' hq H1 locs1 hA1 hS1 => h v N' V' hq p e s m args below meth c H1 locs1 arr hC hL hA1 hS1)
theorem aw_callI {y9 : MethodName} {c9 : ByteArray} {n9 : Nat} {idx nn d mc ms b9 : Nat} {As st0 : List Value} {Q : Option Value → Nat → Wd → Prop} (hd : decode J.2.1 pc = .ok (.invokespecial idx, 3)) (hl : Cond.methodLink J.1.cls idx y9 ∈ fx_TB) (hv : fx_okI (y9, c9, n9, none) nn) (hst : st0 = As.reverse ++ .ref b9 :: st) (hcall : MW l D b d (y9, c9, n9, none) (.ref b9 :: As) N V mc ms Q) (hn : As.length = nn) (hW : (st.map fun v => v.category).sum ≤ 8) (hrc : fx_rc R (y9, c9, n9, none) d k n mc ms) (h : ∀ (v : Option Value) (N' : Nat) (V' : Wd), Q v N' V' → AW l D b J R X FQ (pc + 3) ls (v.toList ++ st) N' V' (k + mc) (n + ms)) : AW l D b J R X FQ pc ls st0 N V k n := by
  intro p e s m args below meth c H locs arr hC hL hA hS
  obtain ⟨hx, hb, hr, hml, hown, hts, hlk, hnm, hK, hsz, hX, hNS⟩ := id hC
  obtain ⟨⟨g1, g2, g3⟩, g4, g5, -⟩ := hv
  subst hst
  exact fx_call (va_runI (As := As) (rest := st) ⟨hx, hb, hml, hown, hts⟩ hcall ⟨callB_of nn hts (fx_goodIn (J' := (y9, c9, n9, none)) (xs := []) g1 (fun w hw => by cases hw)) rfl rfl rfl (hts _ (List.mem_cons_of_mem _ g2)) (hts _ (List.mem_cons_of_mem _ hl)) g3 ⟨hrc.1, by have h9 : 19 + n9 + 64 * (d + 1) ≤ _ := hrc.2.1; show 8 + (n9 + 11) + 64 * (d + 1) ≤ _; omega⟩, g4, hts _ (List.mem_cons_of_mem _ g5)⟩ ⟨fx_blind, fx_pre hK hA hNS⟩ rfl hn hL.1 rfl (lv_room hW) hd hrc.2.2) hS (fun v N' V' hq H1 locs1 hA1 hS1 => h v N' V' hq p e s m args below meth c H1 locs1 arr hC hL hA1 hS1)
theorem aw_callIN {y9 : MethodName} {c9 : ByteArray} {n9 : Nat} {idx nn d mc ms b9 : Nat} {host : String} {As st0 : List Value} {Q : Option Value → Nat → Wd → Prop} (hd : decode J.2.1 pc = .ok (.invokespecial idx, 3)) (hl : Cond.methodLinkNest J.1.cls idx y9 host ∈ fx_NW) (hv : fx_okI (y9, c9, n9, none) nn) (hst : st0 = As.reverse ++ .ref b9 :: st) (hcall : MW l D b d (y9, c9, n9, none) (.ref b9 :: As) N V mc ms Q) (hn : As.length = nn) (hW : (st.map fun v => v.category).sum ≤ 8) (hrc : fx_rc R (y9, c9, n9, none) d k n mc ms) (h : ∀ (v : Option Value) (N' : Nat) (V' : Wd), Q v N' V' → AW l D b J R X FQ (pc + 3) ls (v.toList ++ st) N' V' (k + mc) (n + ms)) : AW l D b J R X FQ pc ls st0 N V k n := by
  intro p e s m args below meth c H locs arr hC hL hA hS
  obtain ⟨hx, hb, hr, hml, hown, hts, hlk, hnm, hK, hsz, hX, hNS⟩ := id hC
  obtain ⟨⟨g1, g2, g3⟩, g4, g5, -⟩ := hv
  subst hst
  exact fx_call (va_runIN (As := As) (rest := st) ⟨hx, hb, hml, hown, hts⟩ hcall ⟨va_cnB nn hts (fx_goodIn (J' := (y9, c9, n9, none)) (xs := []) g1 (fun w hw => by cases hw)) rfl rfl rfl (hNS _ hl) (hts _ (List.mem_cons_of_mem _ g2)) g3 ⟨hrc.1, by have h9 : 19 + n9 + 64 * (d + 1) ≤ _ := hrc.2.1; show 8 + (n9 + 11) + 64 * (d + 1) ≤ _; omega⟩, g4, hts _ (List.mem_cons_of_mem _ g5)⟩ ⟨fx_blind, fx_pre hK hA hNS⟩ rfl hn hL.1 rfl (lv_room hW) hd hrc.2.2) hS (fun v N' V' hq H1 locs1 hA1 hS1 => h v N' V' hq p e s m args below meth c H1 locs1 arr hC hL hA1 hS1)
theorem aw_objInit {idx b9 : Nat} (hd : decode J.2.1 pc = .ok (.invokespecial idx, 3)) (hl : Cond.methodLink J.1.cls idx objectInit ∈ fx_TB) (hi : Cond.instanceMethod objectInit ∈ fx_TB) (hc : Cond.code objectInit ⟨#[0xb1]⟩ 1 none ∈ fx_TB) (hR : 1 ≤ R.frames ∧ (st.map fun v => v.category).sum + 12 ≤ R.locals) (h : AW l D b J R X FQ (pc + 3) ls st N V k n) : AW l D b J R X FQ pc ls (.ref b9 :: st) N V k n := by
  intro p e s m args below meth c H locs arr hC hL hA hS
  obtain ⟨hx, hb, hr, hml, hown, hts, hlk, hnm, hK, hsz, hX, hNS⟩ := id hC
  refine W.objInit hx hb hown (hts _ (List.mem_cons_of_mem _ hl)) (hts _ (List.mem_cons_of_mem _ hi)) (hts _ (List.mem_cons_of_mem _ hc)) rfl (by rw [hml]; exact hL.1) rfl hd hR.1 (by have := hR.2; show 2 * 0 + _ + 12 ≤ _; omega) ?_
  exact h p e s m args below meth c H locs arr hC hL hA hS
theorem aw_mmax {idx : Nat} {x y : Int32} (hd : decode J.2.1 pc = .ok (.invokestatic idx, 3)) (hl : Cond.methodLink J.1.cls idx Lib.Math.max.name ∈ fx_TB) (h1 : Cond.static Lib.Math.max.name ∈ fx_TB) (h2 : Cond.initialized "java/lang/Math" ∈ fx_TB) (h3 : Cond.code Lib.Math.max.name Lib.Math.max.code 2 (some .int) ∈ fx_TB) (hR : 1 ≤ R.frames ∧ (st.map fun v => v.category).sum + 13 ≤ R.locals ∧ k ≤ R.cells ∧ n ≤ R.slots) (h : AW l D b J R X FQ (pc + 3) ls (.int (if x < y then y else x) :: st) N V k n) : AW l D b J R X FQ pc ls (.int y :: .int x :: st) N V k n := by
  intro p e s m args below meth c H locs arr hC hL hA hS
  obtain ⟨hx, hb, hr, hml, hown, hts, hlk, hnm, hK, hsz, hX, hNS⟩ := id hC
  exact va_mmax hx hb (by rw [hml]; exact hL.1.symm) hown (hts _ (List.mem_cons_of_mem _ hl)) (hts _ (List.mem_cons_of_mem _ h1)) (hts _ (List.mem_cons_of_mem _ h2)) (hts _ (List.mem_cons_of_mem _ h3)) hR.1 hR.2.1 hR.2.2.1 hR.2.2.2 hd (h p e s m args below meth c H locs arr hC hL hA hS)
theorem aw_mmin {idx : Nat} {x y : Int32} (hd : decode J.2.1 pc = .ok (.invokestatic idx, 3)) (hl : Cond.methodLink J.1.cls idx Lib.Math.min.name ∈ fx_TB) (h1 : Cond.static Lib.Math.min.name ∈ fx_TB) (h2 : Cond.initialized "java/lang/Math" ∈ fx_TB) (h3 : Cond.code Lib.Math.min.name Lib.Math.min.code 2 (some .int) ∈ fx_TB) (hR : 1 ≤ R.frames ∧ (st.map fun v => v.category).sum + 13 ≤ R.locals ∧ k ≤ R.cells ∧ n ≤ R.slots) (h : AW l D b J R X FQ (pc + 3) ls (.int (if y < x then y else x) :: st) N V k n) : AW l D b J R X FQ pc ls (.int y :: .int x :: st) N V k n := by
  intro p e s m args below meth c H locs arr hC hL hA hS
  obtain ⟨hx, hb, hr, hml, hown, hts, hlk, hnm, hK, hsz, hX, hNS⟩ := id hC
  exact va_mmin hx hb (by rw [hml]; exact hL.1.symm) hown (hts _ (List.mem_cons_of_mem _ hl)) (hts _ (List.mem_cons_of_mem _ h1)) (hts _ (List.mem_cons_of_mem _ h2)) (hts _ (List.mem_cons_of_mem _ h3)) hR.1 hR.2.1 hR.2.2.1 hR.2.2.2 hd (h p e s m args below meth c H locs arr hC hL hA hS)
theorem aw_mabs {idx : Nat} {x : Int32} (hd : decode J.2.1 pc = .ok (.invokestatic idx, 3)) (hl : Cond.methodLink J.1.cls idx Lib.Math.abs.name ∈ fx_TB) (h1 : Cond.static Lib.Math.abs.name ∈ fx_TB) (h2 : Cond.initialized "java/lang/Math" ∈ fx_TB) (h3 : Cond.code Lib.Math.abs.name Lib.Math.abs.code 1 (some .int) ∈ fx_TB) (hR : 1 ≤ R.frames ∧ (st.map fun v => v.category).sum + 13 ≤ R.locals ∧ k ≤ R.cells ∧ n ≤ R.slots) (h : AW l D b J R X FQ (pc + 3) ls (.int (if 0 ≤ x then x else 0 - x) :: st) N V k n) : AW l D b J R X FQ pc ls (.int x :: st) N V k n := by
  intro p e s m args below meth c H locs arr hC hL hA hS
  obtain ⟨hx, hb, hr, hml, hown, hts, hlk, hnm, hK, hsz, hX, hNS⟩ := id hC
  exact va_mabs hx hb (by rw [hml]; exact hL.1.symm) hown (hts _ (List.mem_cons_of_mem _ hl)) (hts _ (List.mem_cons_of_mem _ h1)) (hts _ (List.mem_cons_of_mem _ h2)) (hts _ (List.mem_cons_of_mem _ h3)) hR.1 hR.2.1 hR.2.2.1 hR.2.2.2 hd (h p e s m args below meth c H locs arr hC hL hA hS)
end AWV
section AWR
variable {l : Launch} {D : va_G} {b : Nat} {J : Md} {R : Room} {X : Sc} {pc : Nat} {ls : List (Option Value)} {N : Nat} {V : Wd} {k n mc ms : Nat} {Q : Option Value → Nat → Wd → Prop}
theorem aw_ireturn {v : Int32} (hd : decode J.2.1 pc = .ok (.ireturn, 1)) (hr9 : J.2.2.2 = some .int) (hk : k ≤ mc) (hn : n ≤ ms) (hq : Q (some (.int v)) N V) : AW l D b J R X (fx_MQ D b mc ms Q) pc ls [.int v] N V k n := by
  intro p e s m args below meth c H locs arr hC hL hA hS
  obtain ⟨hx, hb, hr, hml, hown, hts, hlk, hnm, hK, hsz, hX, hNS⟩ := id hC
  exact W.widen hk hn (W.iret hx hb (hr.trans hr9) (fun t ht hW => ⟨⟨_, N, V, rfl, hq, by rw [ht]; exact hA⟩, hS.F ht⟩) hS.2.2 hd hlk)
theorem aw_lreturn {v : Int64} (hd : decode J.2.1 pc = .ok (.lreturn, 1)) (hr9 : J.2.2.2 = some .long) (hk : k ≤ mc) (hn : n ≤ ms) (hq : Q (some (.long v)) N V) : AW l D b J R X (fx_MQ D b mc ms Q) pc ls [.long v] N V k n := by
  intro p e s m args below meth c H locs arr hC hL hA hS
  obtain ⟨hx, hb, hr, hml, hown, hts, hlk, hnm, hK, hsz, hX, hNS⟩ := id hC
  exact W.widen hk hn (W.lret hx hb (hr.trans hr9) (fun t ht hW => ⟨⟨_, N, V, rfl, hq, by rw [ht]; exact hA⟩, hS.F ht⟩) hS.2.2 hd hlk)
theorem aw_vreturn  (hd : decode J.2.1 pc = .ok (.return_, 1)) (hr9 : J.2.2.2 = none) (hk : k ≤ mc) (hn : n ≤ ms) (hq : Q (none) N V) : AW l D b J R X (fx_MQ D b mc ms Q) pc ls [] N V k n := by
  intro p e s m args below meth c H locs arr hC hL hA hS
  obtain ⟨hx, hb, hr, hml, hown, hts, hlk, hnm, hK, hsz, hX, hNS⟩ := id hC
  exact W.widen hk hn (W.vret hx hb (hr.trans hr9) (fun t ht hW => ⟨⟨_, N, V, rfl, hq, by rw [ht]; exact hA⟩, hS.F ht⟩) hS.2.2 hd hlk)
theorem aw_zreturn {v : Int32} (hd : decode J.2.1 pc = .ok (.ireturn, 1)) (hr9 : J.2.2.2 = some .boolean) (hz : v = 0 ∨ v = 1) (hk : k ≤ mc) (hn : n ≤ ms) (hq : Q (some (.int v)) N V) : AW l D b J R X (fx_MQ D b mc ms Q) pc ls [.int v] N V k n := by
  intro p e s m args below meth c H locs arr hC hL hA hS
  obtain ⟨hx, hb, hr, hml, hown, hts, hlk, hnm, hK, hsz, hX, hNS⟩ := id hC
  exact W.widen hk hn (W.zret (ty := .boolean) hx hb (hr.trans hr9) (by rcases hz with rfl | rfl <;> rfl) (fun t ht hW => ⟨⟨_, N, V, rfl, hq, by rw [ht]; exact hA⟩, hS.F ht⟩) hS.2.2 hd hlk)
end AWR
def fx_qi (Q : Int32 → Nat → Wd → Prop) : Option Value → Nat → Wd → Prop := fun r N V => ∃ x : Int32, r = some (.int x) ∧ Q x N V
def fx_ql (Q : Int64 → Nat → Wd → Prop) : Option Value → Nat → Wd → Prop := fun r N V => ∃ x : Int64, r = some (.long x) ∧ Q x N V
def fx_qv (Q : Nat → Wd → Prop) : Option Value → Nat → Wd → Prop := fun r N V => r = none ∧ Q N V
abbrev MI (l : Launch) (D : va_G) (b d : Nat) (J : Md) (av : List Value) (N : Nat) (V : Wd) (mc ms : Nat) (Q : Int32 → Nat → Wd → Prop) : Prop := MW l D b d J av N V mc ms (fx_qi Q)
abbrev ML (l : Launch) (D : va_G) (b d : Nat) (J : Md) (av : List Value) (N : Nat) (V : Wd) (mc ms : Nat) (Q : Int64 → Nat → Wd → Prop) : Prop := MW l D b d J av N V mc ms (fx_ql Q)
abbrev MV (l : Launch) (D : va_G) (b d : Nat) (J : Md) (av : List Value) (N : Nat) (V : Wd) (mc ms : Nat) (Q : Nat → Wd → Prop) : Prop := MW l D b d J av N V mc ms (fx_qv Q)
/-- a counter that falls: -1 at 0, else one less -/
def fx_dn : Nat → Int32
  | 0 => -1
  | g + 1 => nI g
theorem fx_dn_1 (g : Nat) : nI g + Int32.ofInt (-1) = fx_dn g := by
  cases g with
  | zero => decide
  | succ g => exact (show nI (g + 1) + Int32.ofInt (-1) = nI (g + 1) - 1 by rw [show (Int32.ofInt (-1)) = -1 by decide, Int32.sub_eq_add_neg]).trans (nI_pred g)
theorem fx_up_1 (g : Nat) : nI g + Int32.ofInt 1 = nI (g + 1) := nI_1 g
section AWT
variable {l : Launch} {D : va_G} {b : Nat} {J : Md} {R : Room} {X : Sc} {FQ : Array Value → List Frame → State → State → Prop} {pc : Nat} {ls : List (Option Value)} {st : List Value} {N : Nat} {V : Wd} {k n : Nat}
theorem aw_callVi {J' : Md} {idx nn d mc ms : Nat} {As st0 : List Value} {i ci : Nat} {fs : List Value} {Q : Int32 → Nat → Wd → Prop} (hd : decode J.2.1 pc = .ok (.invokevirtual idx, 3)) (hl : Cond.methodLink J.1.cls idx J'.1 ∈ fx_TB) (hv : fx_okV J' nn) (he : V i = cO ci fs) (hi : i < N) (hc : (vwCl[ci]?).map (·.1) = some J'.1.cls) (hst : st0 = As.reverse ++ .ref (b + i) :: st) (hcall : MW l D b d J' (.ref (b + i) :: As) N V mc ms (fx_qi Q)) (hn : As.length = nn) (hW : (st.map fun v => v.category).sum ≤ 8) (hrc : fx_rc R J' d k n mc ms) (h : ∀ (x : Int32) (N' : Nat) (V' : Wd), Q x N' V' → AW l D b J R X FQ (pc + 3) ls (.int x :: st) N' V' (k + mc) (n + ms)) : AW l D b J R X FQ pc ls st0 N V k n := aw_callV hd hl hv he hi hc hst hcall hn hW hrc (fun v N' V' hq => by obtain ⟨x, rfl, hq⟩ := hq; exact h x N' V' hq)
theorem aw_callVl {J' : Md} {idx nn d mc ms : Nat} {As st0 : List Value} {i ci : Nat} {fs : List Value} {Q : Int64 → Nat → Wd → Prop} (hd : decode J.2.1 pc = .ok (.invokevirtual idx, 3)) (hl : Cond.methodLink J.1.cls idx J'.1 ∈ fx_TB) (hv : fx_okV J' nn) (he : V i = cO ci fs) (hi : i < N) (hc : (vwCl[ci]?).map (·.1) = some J'.1.cls) (hst : st0 = As.reverse ++ .ref (b + i) :: st) (hcall : MW l D b d J' (.ref (b + i) :: As) N V mc ms (fx_ql Q)) (hn : As.length = nn) (hW : (st.map fun v => v.category).sum ≤ 8) (hrc : fx_rc R J' d k n mc ms) (h : ∀ (x : Int64) (N' : Nat) (V' : Wd), Q x N' V' → AW l D b J R X FQ (pc + 3) ls (.long x :: st) N' V' (k + mc) (n + ms)) : AW l D b J R X FQ pc ls st0 N V k n := aw_callV hd hl hv he hi hc hst hcall hn hW hrc (fun v N' V' hq => by obtain ⟨x, rfl, hq⟩ := hq; exact h x N' V' hq)
theorem aw_callVv {J' : Md} {idx nn d mc ms : Nat} {As st0 : List Value} {i ci : Nat} {fs : List Value} {Q : Nat → Wd → Prop} (hd : decode J.2.1 pc = .ok (.invokevirtual idx, 3)) (hl : Cond.methodLink J.1.cls idx J'.1 ∈ fx_TB) (hv : fx_okV J' nn) (he : V i = cO ci fs) (hi : i < N) (hc : (vwCl[ci]?).map (·.1) = some J'.1.cls) (hst : st0 = As.reverse ++ .ref (b + i) :: st) (hcall : MW l D b d J' (.ref (b + i) :: As) N V mc ms (fx_qv Q)) (hn : As.length = nn) (hW : (st.map fun v => v.category).sum ≤ 8) (hrc : fx_rc R J' d k n mc ms) (h : ∀ (N' : Nat) (V' : Wd), Q N' V' → AW l D b J R X FQ (pc + 3) ls st N' V' (k + mc) (n + ms)) : AW l D b J R X FQ pc ls st0 N V k n := aw_callV hd hl hv he hi hc hst hcall hn hW hrc (fun v N' V' hq => by obtain ⟨rfl, hq⟩ := hq; exact h N' V' hq)
theorem aw_callSi {J' : Md} {idx nn d mc ms : Nat} {As st0 : List Value} {Q : Int32 → Nat → Wd → Prop} (hd : decode J.2.1 pc = .ok (.invokestatic idx, 3)) (hl : Cond.methodLink J.1.cls idx J'.1 ∈ fx_TB) (hv : fx_okS J' nn) (hst : st0 = As.reverse ++ st) (hcall : MW l D b d J' (As) N V mc ms (fx_qi Q)) (hn : As.length = nn) (hW : (st.map fun v => v.category).sum ≤ 8) (hrc : fx_rc R J' d k n mc ms) (h : ∀ (x : Int32) (N' : Nat) (V' : Wd), Q x N' V' → AW l D b J R X FQ (pc + 3) ls (.int x :: st) N' V' (k + mc) (n + ms)) : AW l D b J R X FQ pc ls st0 N V k n := aw_callS hd hl hv hst hcall hn hW hrc (fun v N' V' hq => by obtain ⟨x, rfl, hq⟩ := hq; exact h x N' V' hq)
theorem aw_callSl {J' : Md} {idx nn d mc ms : Nat} {As st0 : List Value} {Q : Int64 → Nat → Wd → Prop} (hd : decode J.2.1 pc = .ok (.invokestatic idx, 3)) (hl : Cond.methodLink J.1.cls idx J'.1 ∈ fx_TB) (hv : fx_okS J' nn) (hst : st0 = As.reverse ++ st) (hcall : MW l D b d J' (As) N V mc ms (fx_ql Q)) (hn : As.length = nn) (hW : (st.map fun v => v.category).sum ≤ 8) (hrc : fx_rc R J' d k n mc ms) (h : ∀ (x : Int64) (N' : Nat) (V' : Wd), Q x N' V' → AW l D b J R X FQ (pc + 3) ls (.long x :: st) N' V' (k + mc) (n + ms)) : AW l D b J R X FQ pc ls st0 N V k n := aw_callS hd hl hv hst hcall hn hW hrc (fun v N' V' hq => by obtain ⟨x, rfl, hq⟩ := hq; exact h x N' V' hq)
theorem aw_callSv {J' : Md} {idx nn d mc ms : Nat} {As st0 : List Value} {Q : Nat → Wd → Prop} (hd : decode J.2.1 pc = .ok (.invokestatic idx, 3)) (hl : Cond.methodLink J.1.cls idx J'.1 ∈ fx_TB) (hv : fx_okS J' nn) (hst : st0 = As.reverse ++ st) (hcall : MW l D b d J' (As) N V mc ms (fx_qv Q)) (hn : As.length = nn) (hW : (st.map fun v => v.category).sum ≤ 8) (hrc : fx_rc R J' d k n mc ms) (h : ∀ (N' : Nat) (V' : Wd), Q N' V' → AW l D b J R X FQ (pc + 3) ls st N' V' (k + mc) (n + ms)) : AW l D b J R X FQ pc ls st0 N V k n := aw_callS hd hl hv hst hcall hn hW hrc (fun v N' V' hq => by obtain ⟨rfl, hq⟩ := hq; exact h N' V' hq)
theorem aw_callSNi {J' : Md} {idx nn d mc ms : Nat} {As st0 : List Value} {host : String} {Q : Int32 → Nat → Wd → Prop} (hd : decode J.2.1 pc = .ok (.invokestatic idx, 3)) (hl : Cond.methodLinkNest J.1.cls idx J'.1 host ∈ fx_NW) (hv : fx_okS J' nn) (hst : st0 = As.reverse ++ st) (hcall : MW l D b d J' (As) N V mc ms (fx_qi Q)) (hn : As.length = nn) (hW : (st.map fun v => v.category).sum ≤ 8) (hrc : fx_rc R J' d k n mc ms) (h : ∀ (x : Int32) (N' : Nat) (V' : Wd), Q x N' V' → AW l D b J R X FQ (pc + 3) ls (.int x :: st) N' V' (k + mc) (n + ms)) : AW l D b J R X FQ pc ls st0 N V k n := aw_callSN hd hl hv hst hcall hn hW hrc (fun v N' V' hq => by obtain ⟨x, rfl, hq⟩ := hq; exact h x N' V' hq)
theorem aw_callSNl {J' : Md} {idx nn d mc ms : Nat} {As st0 : List Value} {host : String} {Q : Int64 → Nat → Wd → Prop} (hd : decode J.2.1 pc = .ok (.invokestatic idx, 3)) (hl : Cond.methodLinkNest J.1.cls idx J'.1 host ∈ fx_NW) (hv : fx_okS J' nn) (hst : st0 = As.reverse ++ st) (hcall : MW l D b d J' (As) N V mc ms (fx_ql Q)) (hn : As.length = nn) (hW : (st.map fun v => v.category).sum ≤ 8) (hrc : fx_rc R J' d k n mc ms) (h : ∀ (x : Int64) (N' : Nat) (V' : Wd), Q x N' V' → AW l D b J R X FQ (pc + 3) ls (.long x :: st) N' V' (k + mc) (n + ms)) : AW l D b J R X FQ pc ls st0 N V k n := aw_callSN hd hl hv hst hcall hn hW hrc (fun v N' V' hq => by obtain ⟨x, rfl, hq⟩ := hq; exact h x N' V' hq)
theorem aw_callSNv {J' : Md} {idx nn d mc ms : Nat} {As st0 : List Value} {host : String} {Q : Nat → Wd → Prop} (hd : decode J.2.1 pc = .ok (.invokestatic idx, 3)) (hl : Cond.methodLinkNest J.1.cls idx J'.1 host ∈ fx_NW) (hv : fx_okS J' nn) (hst : st0 = As.reverse ++ st) (hcall : MW l D b d J' (As) N V mc ms (fx_qv Q)) (hn : As.length = nn) (hW : (st.map fun v => v.category).sum ≤ 8) (hrc : fx_rc R J' d k n mc ms) (h : ∀ (N' : Nat) (V' : Wd), Q N' V' → AW l D b J R X FQ (pc + 3) ls st N' V' (k + mc) (n + ms)) : AW l D b J R X FQ pc ls st0 N V k n := aw_callSN hd hl hv hst hcall hn hW hrc (fun v N' V' hq => by obtain ⟨rfl, hq⟩ := hq; exact h N' V' hq)
theorem aw_callIv {y9 : MethodName} {c9 : ByteArray} {n9 : Nat} {idx nn d mc ms b9 : Nat} {As st0 : List Value} {Q : Nat → Wd → Prop} (hd : decode J.2.1 pc = .ok (.invokespecial idx, 3)) (hl : Cond.methodLink J.1.cls idx y9 ∈ fx_TB) (hv : fx_okI (y9, c9, n9, none) nn) (hst : st0 = As.reverse ++ .ref b9 :: st) (hcall : MW l D b d (y9, c9, n9, none) (.ref b9 :: As) N V mc ms (fx_qv Q)) (hn : As.length = nn) (hW : (st.map fun v => v.category).sum ≤ 8) (hrc : fx_rc R (y9, c9, n9, none) d k n mc ms) (h : ∀ (N' : Nat) (V' : Wd), Q N' V' → AW l D b J R X FQ (pc + 3) ls st N' V' (k + mc) (n + ms)) : AW l D b J R X FQ pc ls st0 N V k n := aw_callI hd hl hv hst hcall hn hW hrc (fun v N' V' hq => by obtain ⟨rfl, hq⟩ := hq; exact h N' V' hq)
theorem aw_callINv {y9 : MethodName} {c9 : ByteArray} {n9 : Nat} {idx nn d mc ms b9 : Nat} {host : String} {As st0 : List Value} {Q : Nat → Wd → Prop} (hd : decode J.2.1 pc = .ok (.invokespecial idx, 3)) (hl : Cond.methodLinkNest J.1.cls idx y9 host ∈ fx_NW) (hv : fx_okI (y9, c9, n9, none) nn) (hst : st0 = As.reverse ++ .ref b9 :: st) (hcall : MW l D b d (y9, c9, n9, none) (.ref b9 :: As) N V mc ms (fx_qv Q)) (hn : As.length = nn) (hW : (st.map fun v => v.category).sum ≤ 8) (hrc : fx_rc R (y9, c9, n9, none) d k n mc ms) (h : ∀ (N' : Nat) (V' : Wd), Q N' V' → AW l D b J R X FQ (pc + 3) ls st N' V' (k + mc) (n + ms)) : AW l D b J R X FQ pc ls st0 N V k n := aw_callIN hd hl hv hst hcall hn hW hrc (fun v N' V' hq => by obtain ⟨rfl, hq⟩ := hq; exact h N' V' hq)
theorem aw_ireti {v : Int32} {mc ms : Nat} {Q : Int32 → Nat → Wd → Prop} (hd : decode J.2.1 pc = .ok (.ireturn, 1)) (hr9 : J.2.2.2 = some .int) (hk : k ≤ mc) (hn : n ≤ ms) (hq : Q v N V) : AW l D b J R X (fx_MQ D b mc ms (fx_qi Q)) pc ls [.int v] N V k n := aw_ireturn hd hr9 hk hn ⟨_, rfl, hq⟩
theorem aw_lreti {v : Int64} {mc ms : Nat} {Q : Int64 → Nat → Wd → Prop} (hd : decode J.2.1 pc = .ok (.lreturn, 1)) (hr9 : J.2.2.2 = some .long) (hk : k ≤ mc) (hn : n ≤ ms) (hq : Q v N V) : AW l D b J R X (fx_MQ D b mc ms (fx_ql Q)) pc ls [.long v] N V k n := aw_lreturn hd hr9 hk hn ⟨_, rfl, hq⟩
theorem aw_zreti {v : Int32} {mc ms : Nat} {Q : Int32 → Nat → Wd → Prop} (hd : decode J.2.1 pc = .ok (.ireturn, 1)) (hr9 : J.2.2.2 = some .boolean) (hz : v = 0 ∨ v = 1) (hk : k ≤ mc) (hn : n ≤ ms) (hq : Q v N V) : AW l D b J R X (fx_MQ D b mc ms (fx_qi Q)) pc ls [.int v] N V k n := aw_zreturn hd hr9 hz hk hn ⟨_, rfl, hq⟩
theorem aw_vreti {mc ms : Nat} {Q : Nat → Wd → Prop} (hd : decode J.2.1 pc = .ok (.return_, 1)) (hr9 : J.2.2.2 = none) (hk : k ≤ mc) (hn : n ≤ ms) (hq : Q N V) : AW l D b J R X (fx_MQ D b mc ms (fx_qv Q)) pc ls [] N V k n := aw_vreturn hd hr9 hk hn ⟨rfl, hq⟩
end AWT
end
