section
-- ===== PART A: goes FIRST, ahead of the names: the tables' words, and 'selects' of the private methods out of them =====
/-- a private method of a class that the tables say can be made, by its rows of tables_1 -/
def lw_okq (q : MethodName × Nat) : Prop := (q.1.cls ≠ "java/lang/invoke/MethodHandle" ∧ q.1.cls ≠ "java/lang/invoke/VarHandle") ∧ Cond.instantiable q.1.cls q.2 ∈ tables_1 ∧ Cond.privateMethod q.1 ∈ tables_1 ∧ Cond.instanceMethod q.1 ∈ tables_1
theorem lw_p0 : lw_okq (⟨"FearLocks$DreadsReader", "readFears", "()I"⟩, 3) := ⟨⟨by decide +kernel, by decide +kernel⟩, List.mem_of_getElem? (i := 352) (by decide +kernel), List.mem_of_getElem? (i := 350) (by decide +kernel), List.mem_of_getElem? (i := 351) (by decide +kernel)⟩
theorem lw_p1 : lw_okq (⟨"FearLocks$DreadsReader", "change", "(III)V"⟩, 3) := ⟨⟨by decide +kernel, by decide +kernel⟩, List.mem_of_getElem? (i := 352) (by decide +kernel), List.mem_of_getElem? (i := 367) (by decide +kernel), List.mem_of_getElem? (i := 368) (by decide +kernel)⟩
theorem lw_p2 : lw_okq (⟨"FearLocks$LawReader", "readSum", "(I)Z"⟩, 2) := ⟨⟨by decide +kernel, by decide +kernel⟩, List.mem_of_getElem? (i := 280) (by decide +kernel), List.mem_of_getElem? (i := 396) (by decide +kernel), List.mem_of_getElem? (i := 397) (by decide +kernel)⟩
theorem lw_p3 : lw_okq (⟨"FearLocks$LawReader", "readProduct", "(I)Z"⟩, 2) := ⟨⟨by decide +kernel, by decide +kernel⟩, List.mem_of_getElem? (i := 280) (by decide +kernel), List.mem_of_getElem? (i := 400) (by decide +kernel), List.mem_of_getElem? (i := 401) (by decide +kernel)⟩
theorem lw_p4 : lw_okq (⟨"FearLocks$LawReader", "readFactor", "(I)Z"⟩, 2) := ⟨⟨by decide +kernel, by decide +kernel⟩, List.mem_of_getElem? (i := 280) (by decide +kernel), List.mem_of_getElem? (i := 404) (by decide +kernel), List.mem_of_getElem? (i := 405) (by decide +kernel)⟩
theorem lw_p5 : lw_okq (⟨"FearLocks$LawReader", "open", "(I)Z"⟩, 2) := ⟨⟨by decide +kernel, by decide +kernel⟩, List.mem_of_getElem? (i := 280) (by decide +kernel), List.mem_of_getElem? (i := 408) (by decide +kernel), List.mem_of_getElem? (i := 409) (by decide +kernel)⟩
theorem lw_p6 : lw_okq (⟨"FearLocks$LawReader", "readAnyOf", "(I)Z"⟩, 2) := ⟨⟨by decide +kernel, by decide +kernel⟩, List.mem_of_getElem? (i := 280) (by decide +kernel), List.mem_of_getElem? (i := 502) (by decide +kernel), List.mem_of_getElem? (i := 503) (by decide +kernel)⟩
theorem lw_p7 : lw_okq (⟨"FearLocks$LawReader", "readAllOf", "(I)Z"⟩, 2) := ⟨⟨by decide +kernel, by decide +kernel⟩, List.mem_of_getElem? (i := 280) (by decide +kernel), List.mem_of_getElem? (i := 506) (by decide +kernel), List.mem_of_getElem? (i := 507) (by decide +kernel)⟩
theorem lw_p8 : lw_okq (⟨"FearLocks$LawReader", "readTest", "(I)Z"⟩, 2) := ⟨⟨by decide +kernel, by decide +kernel⟩, List.mem_of_getElem? (i := 280) (by decide +kernel), List.mem_of_getElem? (i := 510) (by decide +kernel), List.mem_of_getElem? (i := 511) (by decide +kernel)⟩
theorem lw_p9 : lw_okq (⟨"FearLocks$LawReader", "readNegation", "(I)Z"⟩, 2) := ⟨⟨by decide +kernel, by decide +kernel⟩, List.mem_of_getElem? (i := 280) (by decide +kernel), List.mem_of_getElem? (i := 514) (by decide +kernel), List.mem_of_getElem? (i := 515) (by decide +kernel)⟩
theorem lw_p10 : lw_okq (⟨"FearLocks$LawReader", "readComparison", "(I)Z"⟩, 2) := ⟨⟨by decide +kernel, by decide +kernel⟩, List.mem_of_getElem? (i := 280) (by decide +kernel), List.mem_of_getElem? (i := 518) (by decide +kernel), List.mem_of_getElem? (i := 519) (by decide +kernel)⟩
theorem lw_p11 : lw_okq (⟨"FearLocks$OrdersReader", "readDoor", "()Z"⟩, 2) := ⟨⟨by decide +kernel, by decide +kernel⟩, List.mem_of_getElem? (i := 537) (by decide +kernel), List.mem_of_getElem? (i := 535) (by decide +kernel), List.mem_of_getElem? (i := 536) (by decide +kernel)⟩
theorem lw_p12 : lw_okq (⟨"FearLocks$OrdersReader", "readLock", "(I)Z"⟩, 2) := ⟨⟨by decide +kernel, by decide +kernel⟩, List.mem_of_getElem? (i := 537) (by decide +kernel), List.mem_of_getElem? (i := 552) (by decide +kernel), List.mem_of_getElem? (i := 553) (by decide +kernel)⟩
theorem lw_p13 : lw_okq (⟨"FearLocks$OrdersReader", "readAcquaintance", "()Z"⟩, 2) := ⟨⟨by decide +kernel, by decide +kernel⟩, List.mem_of_getElem? (i := 537) (by decide +kernel), List.mem_of_getElem? (i := 562) (by decide +kernel), List.mem_of_getElem? (i := 563) (by decide +kernel)⟩
theorem lw_p14 : lw_okq (⟨"FearLocks$OrdersReader", "readPerson", "()I"⟩, 2) := ⟨⟨by decide +kernel, by decide +kernel⟩, List.mem_of_getElem? (i := 537) (by decide +kernel), List.mem_of_getElem? (i := 566) (by decide +kernel), List.mem_of_getElem? (i := 567) (by decide +kernel)⟩
theorem lw_p15 : lw_okq (⟨"FearLocks$Nightfall", "goOut", "(LFearLocks$City;LFearLocks$Law;I)V"⟩, 3) := ⟨⟨by decide +kernel, by decide +kernel⟩, List.mem_of_getElem? (i := 165) (by decide +kernel), List.mem_of_getElem? (i := 632) (by decide +kernel), List.mem_of_getElem? (i := 633) (by decide +kernel)⟩
def lw_privs_1 : List (MethodName × Nat) := [(⟨"FearLocks$DreadsReader", "readFears", "()I"⟩, 3), (⟨"FearLocks$DreadsReader", "change", "(III)V"⟩, 3), (⟨"FearLocks$LawReader", "readSum", "(I)Z"⟩, 2), (⟨"FearLocks$LawReader", "readProduct", "(I)Z"⟩, 2), (⟨"FearLocks$LawReader", "readFactor", "(I)Z"⟩, 2), (⟨"FearLocks$LawReader", "open", "(I)Z"⟩, 2), (⟨"FearLocks$LawReader", "readAnyOf", "(I)Z"⟩, 2), (⟨"FearLocks$LawReader", "readAllOf", "(I)Z"⟩, 2), (⟨"FearLocks$LawReader", "readTest", "(I)Z"⟩, 2), (⟨"FearLocks$LawReader", "readNegation", "(I)Z"⟩, 2), (⟨"FearLocks$LawReader", "readComparison", "(I)Z"⟩, 2), (⟨"FearLocks$OrdersReader", "readDoor", "()Z"⟩, 2), (⟨"FearLocks$OrdersReader", "readLock", "(I)Z"⟩, 2), (⟨"FearLocks$OrdersReader", "readAcquaintance", "()Z"⟩, 2), (⟨"FearLocks$OrdersReader", "readPerson", "()I"⟩, 2), (⟨"FearLocks$Nightfall", "goOut", "(LFearLocks$City;LFearLocks$Law;I)V"⟩, 3)]
theorem lw_r1 : ∀ q ∈ lw_privs_1, lw_okq q := List.forall_mem_cons.mpr ⟨lw_p0, List.forall_mem_cons.mpr ⟨lw_p1, List.forall_mem_cons.mpr ⟨lw_p2, List.forall_mem_cons.mpr ⟨lw_p3, List.forall_mem_cons.mpr ⟨lw_p4, List.forall_mem_cons.mpr ⟨lw_p5, List.forall_mem_cons.mpr ⟨lw_p6, List.forall_mem_cons.mpr ⟨lw_p7, List.forall_mem_cons.mpr ⟨lw_p8, List.forall_mem_cons.mpr ⟨lw_p9, List.forall_mem_cons.mpr ⟨lw_p10, List.forall_mem_cons.mpr ⟨lw_p11, List.forall_mem_cons.mpr ⟨lw_p12, List.forall_mem_cons.mpr ⟨lw_p13, List.forall_mem_cons.mpr ⟨lw_p14, List.forall_mem_cons.mpr ⟨lw_p15, fun _ h => absurd h List.not_mem_nil⟩⟩⟩⟩⟩⟩⟩⟩⟩⟩⟩⟩⟩⟩⟩⟩
theorem lw_p16 : lw_okq (⟨"FearLocks$Law", "reckon", "(I)I"⟩, 10) := ⟨⟨by decide +kernel, by decide +kernel⟩, List.mem_of_getElem? (i := 115) (by decide +kernel), List.mem_of_getElem? (i := 677) (by decide +kernel), List.mem_of_getElem? (i := 678) (by decide +kernel)⟩
theorem lw_p17 : lw_okq (⟨"FearLocks$Law", "push", "(I)V"⟩, 10) := ⟨⟨by decide +kernel, by decide +kernel⟩, List.mem_of_getElem? (i := 115) (by decide +kernel), List.mem_of_getElem? (i := 682) (by decide +kernel), List.mem_of_getElem? (i := 683) (by decide +kernel)⟩
theorem lw_p18 : lw_okq (⟨"FearLocks$Law", "meaningOf", "(I)I"⟩, 10) := ⟨⟨by decide +kernel, by decide +kernel⟩, List.mem_of_getElem? (i := 115) (by decide +kernel), List.mem_of_getElem? (i := 686) (by decide +kernel), List.mem_of_getElem? (i := 687) (by decide +kernel)⟩
theorem lw_p19 : lw_okq (⟨"FearLocks$Law", "pop", "()I"⟩, 10) := ⟨⟨by decide +kernel, by decide +kernel⟩, List.mem_of_getElem? (i := 115) (by decide +kernel), List.mem_of_getElem? (i := 690) (by decide +kernel), List.mem_of_getElem? (i := 691) (by decide +kernel)⟩
theorem lw_p20 : lw_okq (⟨"FearLocks$Nightfall", "tryDoor", "(LFearLocks$City;LFearLocks$Law;II)V"⟩, 3) := ⟨⟨by decide +kernel, by decide +kernel⟩, List.mem_of_getElem? (i := 165) (by decide +kernel), List.mem_of_getElem? (i := 710) (by decide +kernel), List.mem_of_getElem? (i := 711) (by decide +kernel)⟩
theorem lw_p21 : lw_okq (⟨"FearLocks$Nightfall", "spreadDread", "(LFearLocks$City;LFearLocks$Law;)V"⟩, 3) := ⟨⟨by decide +kernel, by decide +kernel⟩, List.mem_of_getElem? (i := 165) (by decide +kernel), List.mem_of_getElem? (i := 727) (by decide +kernel), List.mem_of_getElem? (i := 728) (by decide +kernel)⟩
theorem lw_p22 : lw_okq (⟨"FearLocks$Nightfall", "catchDread", "(LFearLocks$City;LFearLocks$Law;II)V"⟩, 3) := ⟨⟨by decide +kernel, by decide +kernel⟩, List.mem_of_getElem? (i := 165) (by decide +kernel), List.mem_of_getElem? (i := 733) (by decide +kernel), List.mem_of_getElem? (i := 734) (by decide +kernel)⟩
theorem lw_p23 : lw_okq (⟨"FearLocks", "canBeTried", "(I)Z"⟩, 11) := ⟨⟨by decide +kernel, by decide +kernel⟩, List.mem_of_getElem? (i := 22) (by decide +kernel), List.mem_of_getElem? (i := 742) (by decide +kernel), List.mem_of_getElem? (i := 743) (by decide +kernel)⟩
theorem lw_p24 : lw_okq (⟨"FearLocks$Keys", "openedBy", "(I)I"⟩, 1) := ⟨⟨by decide +kernel, by decide +kernel⟩, List.mem_of_getElem? (i := 185) (by decide +kernel), List.mem_of_getElem? (i := 801) (by decide +kernel), List.mem_of_getElem? (i := 802) (by decide +kernel)⟩
theorem lw_p25 : lw_okq (⟨"FearLocks$Company", "linkFellows", "(LFearLocks$City;I)V"⟩, 2) := ⟨⟨by decide +kernel, by decide +kernel⟩, List.mem_of_getElem? (i := 195) (by decide +kernel), List.mem_of_getElem? (i := 823) (by decide +kernel), List.mem_of_getElem? (i := 824) (by decide +kernel)⟩
theorem lw_p26 : lw_okq (⟨"FearLocks$Company", "mostWith", "(II)I"⟩, 2) := ⟨⟨by decide +kernel, by decide +kernel⟩, List.mem_of_getElem? (i := 195) (by decide +kernel), List.mem_of_getElem? (i := 831) (by decide +kernel), List.mem_of_getElem? (i := 832) (by decide +kernel)⟩
theorem lw_p27 : lw_okq (⟨"FearLocks$Pastimes", "wordsWithOneMore", "(II)J"⟩, 2) := ⟨⟨by decide +kernel, by decide +kernel⟩, List.mem_of_getElem? (i := 208) (by decide +kernel), List.mem_of_getElem? (i := 983) (by decide +kernel), List.mem_of_getElem? (i := 984) (by decide +kernel)⟩
theorem lw_p28 : lw_okq (⟨"FearLocksModel", "types", "(I)V"⟩, 52) := ⟨⟨by decide +kernel, by decide +kernel⟩, List.mem_of_getElem? (i := 1033) (by decide +kernel), List.mem_of_getElem? (i := 1202) (by decide +kernel), List.mem_of_getElem? (i := 1203) (by decide +kernel)⟩
theorem lw_p29 : lw_okq (⟨"FearLocksModel", "beginsText", "(I)V"⟩, 52) := ⟨⟨by decide +kernel, by decide +kernel⟩, List.mem_of_getElem? (i := 1033) (by decide +kernel), List.mem_of_getElem? (i := 1213) (by decide +kernel), List.mem_of_getElem? (i := 1214) (by decide +kernel)⟩
theorem lw_p30 : lw_okq (⟨"FearLocksModel", "readsRule", "()Z"⟩, 52) := ⟨⟨by decide +kernel, by decide +kernel⟩, List.mem_of_getElem? (i := 1033) (by decide +kernel), List.mem_of_getElem? (i := 1217) (by decide +kernel), List.mem_of_getElem? (i := 1218) (by decide +kernel)⟩
theorem lw_p31 : lw_okq (⟨"FearLocksModel", "here", "()I"⟩, 52) := ⟨⟨by decide +kernel, by decide +kernel⟩, List.mem_of_getElem? (i := 1033) (by decide +kernel), List.mem_of_getElem? (i := 1221) (by decide +kernel), List.mem_of_getElem? (i := 1222) (by decide +kernel)⟩
def lw_privs_2 : List (MethodName × Nat) := [(⟨"FearLocks$Law", "reckon", "(I)I"⟩, 10), (⟨"FearLocks$Law", "push", "(I)V"⟩, 10), (⟨"FearLocks$Law", "meaningOf", "(I)I"⟩, 10), (⟨"FearLocks$Law", "pop", "()I"⟩, 10), (⟨"FearLocks$Nightfall", "tryDoor", "(LFearLocks$City;LFearLocks$Law;II)V"⟩, 3), (⟨"FearLocks$Nightfall", "spreadDread", "(LFearLocks$City;LFearLocks$Law;)V"⟩, 3), (⟨"FearLocks$Nightfall", "catchDread", "(LFearLocks$City;LFearLocks$Law;II)V"⟩, 3), (⟨"FearLocks", "canBeTried", "(I)Z"⟩, 11), (⟨"FearLocks$Keys", "openedBy", "(I)I"⟩, 1), (⟨"FearLocks$Company", "linkFellows", "(LFearLocks$City;I)V"⟩, 2), (⟨"FearLocks$Company", "mostWith", "(II)I"⟩, 2), (⟨"FearLocks$Pastimes", "wordsWithOneMore", "(II)J"⟩, 2), (⟨"FearLocksModel", "types", "(I)V"⟩, 52), (⟨"FearLocksModel", "beginsText", "(I)V"⟩, 52), (⟨"FearLocksModel", "readsRule", "()Z"⟩, 52), (⟨"FearLocksModel", "here", "()I"⟩, 52)]
theorem lw_r2 : ∀ q ∈ lw_privs_2, lw_okq q := List.forall_mem_cons.mpr ⟨lw_p16, List.forall_mem_cons.mpr ⟨lw_p17, List.forall_mem_cons.mpr ⟨lw_p18, List.forall_mem_cons.mpr ⟨lw_p19, List.forall_mem_cons.mpr ⟨lw_p20, List.forall_mem_cons.mpr ⟨lw_p21, List.forall_mem_cons.mpr ⟨lw_p22, List.forall_mem_cons.mpr ⟨lw_p23, List.forall_mem_cons.mpr ⟨lw_p24, List.forall_mem_cons.mpr ⟨lw_p25, List.forall_mem_cons.mpr ⟨lw_p26, List.forall_mem_cons.mpr ⟨lw_p27, List.forall_mem_cons.mpr ⟨lw_p28, List.forall_mem_cons.mpr ⟨lw_p29, List.forall_mem_cons.mpr ⟨lw_p30, List.forall_mem_cons.mpr ⟨lw_p31, fun _ h => absurd h List.not_mem_nil⟩⟩⟩⟩⟩⟩⟩⟩⟩⟩⟩⟩⟩⟩⟩⟩
theorem lw_p32 : lw_okq (⟨"FearLocksModel", "wrongAt", "(II)Z"⟩, 52) := ⟨⟨by decide +kernel, by decide +kernel⟩, List.mem_of_getElem? (i := 1033) (by decide +kernel), List.mem_of_getElem? (i := 1225) (by decide +kernel), List.mem_of_getElem? (i := 1226) (by decide +kernel)⟩
theorem lw_p33 : lw_okq (⟨"FearLocksModel", "readsSum", "()Z"⟩, 52) := ⟨⟨by decide +kernel, by decide +kernel⟩, List.mem_of_getElem? (i := 1033) (by decide +kernel), List.mem_of_getElem? (i := 1229) (by decide +kernel), List.mem_of_getElem? (i := 1230) (by decide +kernel)⟩
theorem lw_p34 : lw_okq (⟨"FearLocksModel", "readsFactor", "()Z"⟩, 52) := ⟨⟨by decide +kernel, by decide +kernel⟩, List.mem_of_getElem? (i := 1033) (by decide +kernel), List.mem_of_getElem? (i := 1233) (by decide +kernel), List.mem_of_getElem? (i := 1234) (by decide +kernel)⟩
theorem lw_p35 : lw_okq (⟨"FearLocksModel", "opens", "(I)Z"⟩, 52) := ⟨⟨by decide +kernel, by decide +kernel⟩, List.mem_of_getElem? (i := 1033) (by decide +kernel), List.mem_of_getElem? (i := 1237) (by decide +kernel), List.mem_of_getElem? (i := 1238) (by decide +kernel)⟩
theorem lw_p36 : lw_okq (⟨"FearLocksModel", "isDigit", "()Z"⟩, 52) := ⟨⟨by decide +kernel, by decide +kernel⟩, List.mem_of_getElem? (i := 1033) (by decide +kernel), List.mem_of_getElem? (i := 1242) (by decide +kernel), List.mem_of_getElem? (i := 1243) (by decide +kernel)⟩
theorem lw_p37 : lw_okq (⟨"FearLocksModel", "readsNumber", "()Z"⟩, 52) := ⟨⟨by decide +kernel, by decide +kernel⟩, List.mem_of_getElem? (i := 1033) (by decide +kernel), List.mem_of_getElem? (i := 1246) (by decide +kernel), List.mem_of_getElem? (i := 1247) (by decide +kernel)⟩
theorem lw_p38 : lw_okq (⟨"FearLocksModel", "notes", "(II)V"⟩, 52) := ⟨⟨by decide +kernel, by decide +kernel⟩, List.mem_of_getElem? (i := 1033) (by decide +kernel), List.mem_of_getElem? (i := 1250) (by decide +kernel), List.mem_of_getElem? (i := 1251) (by decide +kernel)⟩
theorem lw_p39 : lw_okq (⟨"FearLocksModel", "closesSums", "(Z)V"⟩, 52) := ⟨⟨by decide +kernel, by decide +kernel⟩, List.mem_of_getElem? (i := 1033) (by decide +kernel), List.mem_of_getElem? (i := 1260) (by decide +kernel), List.mem_of_getElem? (i := 1261) (by decide +kernel)⟩
theorem lw_p40 : lw_okq (⟨"FearLocksModel", "waitTop", "()I"⟩, 52) := ⟨⟨by decide +kernel, by decide +kernel⟩, List.mem_of_getElem? (i := 1033) (by decide +kernel), List.mem_of_getElem? (i := 1264) (by decide +kernel), List.mem_of_getElem? (i := 1265) (by decide +kernel)⟩
theorem lw_p41 : lw_okq (⟨"FearLocksModel", "hasOpenSum", "(I)Z"⟩, 52) := ⟨⟨by decide +kernel, by decide +kernel⟩, List.mem_of_getElem? (i := 1033) (by decide +kernel), List.mem_of_getElem? (i := 1268) (by decide +kernel), List.mem_of_getElem? (i := 1269) (by decide +kernel)⟩
theorem lw_p42 : lw_okq (⟨"FearLocksModel", "readsCondition", "()Z"⟩, 52) := ⟨⟨by decide +kernel, by decide +kernel⟩, List.mem_of_getElem? (i := 1033) (by decide +kernel), List.mem_of_getElem? (i := 1272) (by decide +kernel), List.mem_of_getElem? (i := 1273) (by decide +kernel)⟩
theorem lw_p43 : lw_okq (⟨"FearLocksModel", "readsCompared", "()Z"⟩, 52) := ⟨⟨by decide +kernel, by decide +kernel⟩, List.mem_of_getElem? (i := 1033) (by decide +kernel), List.mem_of_getElem? (i := 1276) (by decide +kernel), List.mem_of_getElem? (i := 1277) (by decide +kernel)⟩
theorem lw_p44 : lw_okq (⟨"FearLocksModel", "endsPiece", "()V"⟩, 52) := ⟨⟨by decide +kernel, by decide +kernel⟩, List.mem_of_getElem? (i := 1033) (by decide +kernel), List.mem_of_getElem? (i := 1280) (by decide +kernel), List.mem_of_getElem? (i := 1281) (by decide +kernel)⟩
theorem lw_p45 : lw_okq (⟨"FearLocksModel", "lands", "(Z)V"⟩, 52) := ⟨⟨by decide +kernel, by decide +kernel⟩, List.mem_of_getElem? (i := 1033) (by decide +kernel), List.mem_of_getElem? (i := 1284) (by decide +kernel), List.mem_of_getElem? (i := 1285) (by decide +kernel)⟩
theorem lw_p46 : lw_okq (⟨"FearLocksModel", "jumps", "(I)V"⟩, 52) := ⟨⟨by decide +kernel, by decide +kernel⟩, List.mem_of_getElem? (i := 1033) (by decide +kernel), List.mem_of_getElem? (i := 1288) (by decide +kernel), List.mem_of_getElem? (i := 1289) (by decide +kernel)⟩
theorem lw_p47 : lw_okq (⟨"FearLocksModel", "takes", "(I)Z"⟩, 52) := ⟨⟨by decide +kernel, by decide +kernel⟩, List.mem_of_getElem? (i := 1033) (by decide +kernel), List.mem_of_getElem? (i := 1292) (by decide +kernel), List.mem_of_getElem? (i := 1293) (by decide +kernel)⟩
def lw_privs_3 : List (MethodName × Nat) := [(⟨"FearLocksModel", "wrongAt", "(II)Z"⟩, 52), (⟨"FearLocksModel", "readsSum", "()Z"⟩, 52), (⟨"FearLocksModel", "readsFactor", "()Z"⟩, 52), (⟨"FearLocksModel", "opens", "(I)Z"⟩, 52), (⟨"FearLocksModel", "isDigit", "()Z"⟩, 52), (⟨"FearLocksModel", "readsNumber", "()Z"⟩, 52), (⟨"FearLocksModel", "notes", "(II)V"⟩, 52), (⟨"FearLocksModel", "closesSums", "(Z)V"⟩, 52), (⟨"FearLocksModel", "waitTop", "()I"⟩, 52), (⟨"FearLocksModel", "hasOpenSum", "(I)Z"⟩, 52), (⟨"FearLocksModel", "readsCondition", "()Z"⟩, 52), (⟨"FearLocksModel", "readsCompared", "()Z"⟩, 52), (⟨"FearLocksModel", "endsPiece", "()V"⟩, 52), (⟨"FearLocksModel", "lands", "(Z)V"⟩, 52), (⟨"FearLocksModel", "jumps", "(I)V"⟩, 52), (⟨"FearLocksModel", "takes", "(I)Z"⟩, 52)]
theorem lw_r3 : ∀ q ∈ lw_privs_3, lw_okq q := List.forall_mem_cons.mpr ⟨lw_p32, List.forall_mem_cons.mpr ⟨lw_p33, List.forall_mem_cons.mpr ⟨lw_p34, List.forall_mem_cons.mpr ⟨lw_p35, List.forall_mem_cons.mpr ⟨lw_p36, List.forall_mem_cons.mpr ⟨lw_p37, List.forall_mem_cons.mpr ⟨lw_p38, List.forall_mem_cons.mpr ⟨lw_p39, List.forall_mem_cons.mpr ⟨lw_p40, List.forall_mem_cons.mpr ⟨lw_p41, List.forall_mem_cons.mpr ⟨lw_p42, List.forall_mem_cons.mpr ⟨lw_p43, List.forall_mem_cons.mpr ⟨lw_p44, List.forall_mem_cons.mpr ⟨lw_p45, List.forall_mem_cons.mpr ⟨lw_p46, List.forall_mem_cons.mpr ⟨lw_p47, fun _ h => absurd h List.not_mem_nil⟩⟩⟩⟩⟩⟩⟩⟩⟩⟩⟩⟩⟩⟩⟩⟩
theorem lw_p48 : lw_okq (⟨"FearLocksModel", "readsDread", "(I)Z"⟩, 52) := ⟨⟨by decide +kernel, by decide +kernel⟩, List.mem_of_getElem? (i := 1033) (by decide +kernel), List.mem_of_getElem? (i := 1303) (by decide +kernel), List.mem_of_getElem? (i := 1304) (by decide +kernel)⟩
theorem lw_p49 : lw_okq (⟨"FearLocksModel", "isLetter", "()Z"⟩, 52) := ⟨⟨by decide +kernel, by decide +kernel⟩, List.mem_of_getElem? (i := 1033) (by decide +kernel), List.mem_of_getElem? (i := 1307) (by decide +kernel), List.mem_of_getElem? (i := 1308) (by decide +kernel)⟩
theorem lw_p50 : lw_okq (⟨"FearLocksModel", "readsMeant", "()Z"⟩, 52) := ⟨⟨by decide +kernel, by decide +kernel⟩, List.mem_of_getElem? (i := 1033) (by decide +kernel), List.mem_of_getElem? (i := 1311) (by decide +kernel), List.mem_of_getElem? (i := 1312) (by decide +kernel)⟩
theorem lw_p51 : lw_okq (⟨"FearLocksModel", "readsAmount", "()Z"⟩, 52) := ⟨⟨by decide +kernel, by decide +kernel⟩, List.mem_of_getElem? (i := 1033) (by decide +kernel), List.mem_of_getElem? (i := 1319) (by decide +kernel), List.mem_of_getElem? (i := 1320) (by decide +kernel)⟩
theorem lw_p52 : lw_okq (⟨"FearLocksModel", "laysAside", "()V"⟩, 52) := ⟨⟨by decide +kernel, by decide +kernel⟩, List.mem_of_getElem? (i := 1033) (by decide +kernel), List.mem_of_getElem? (i := 1336) (by decide +kernel), List.mem_of_getElem? (i := 1337) (by decide +kernel)⟩
theorem lw_p53 : lw_okq (⟨"FearLocksModel", "readsOrder", "()Z"⟩, 52) := ⟨⟨by decide +kernel, by decide +kernel⟩, List.mem_of_getElem? (i := 1033) (by decide +kernel), List.mem_of_getElem? (i := 1340) (by decide +kernel), List.mem_of_getElem? (i := 1341) (by decide +kernel)⟩
theorem lw_p54 : lw_okq (⟨"FearLocksModel", "readsTwo", "()Z"⟩, 52) := ⟨⟨by decide +kernel, by decide +kernel⟩, List.mem_of_getElem? (i := 1033) (by decide +kernel), List.mem_of_getElem? (i := 1344) (by decide +kernel), List.mem_of_getElem? (i := 1345) (by decide +kernel)⟩
theorem lw_p55 : lw_okq (⟨"FearLocksModel", "readsOne", "()Z"⟩, 52) := ⟨⟨by decide +kernel, by decide +kernel⟩, List.mem_of_getElem? (i := 1033) (by decide +kernel), List.mem_of_getElem? (i := 1348) (by decide +kernel), List.mem_of_getElem? (i := 1349) (by decide +kernel)⟩
theorem lw_p56 : lw_okq (⟨"FearLocksModel", "isTold", "(I)Z"⟩, 52) := ⟨⟨by decide +kernel, by decide +kernel⟩, List.mem_of_getElem? (i := 1033) (by decide +kernel), List.mem_of_getElem? (i := 1352) (by decide +kernel), List.mem_of_getElem? (i := 1353) (by decide +kernel)⟩
theorem lw_p57 : lw_okq (⟨"FearLocksModel", "readsDoor", "()Z"⟩, 52) := ⟨⟨by decide +kernel, by decide +kernel⟩, List.mem_of_getElem? (i := 1033) (by decide +kernel), List.mem_of_getElem? (i := 1356) (by decide +kernel), List.mem_of_getElem? (i := 1357) (by decide +kernel)⟩
theorem lw_p58 : lw_okq (⟨"FearLocksModel", "isDoor", "(I)Z"⟩, 52) := ⟨⟨by decide +kernel, by decide +kernel⟩, List.mem_of_getElem? (i := 1033) (by decide +kernel), List.mem_of_getElem? (i := 1360) (by decide +kernel), List.mem_of_getElem? (i := 1361) (by decide +kernel)⟩
theorem lw_p59 : lw_okq (⟨"FearLocksModel", "putsBack", "()V"⟩, 52) := ⟨⟨by decide +kernel, by decide +kernel⟩, List.mem_of_getElem? (i := 1033) (by decide +kernel), List.mem_of_getElem? (i := 1364) (by decide +kernel), List.mem_of_getElem? (i := 1365) (by decide +kernel)⟩
theorem lw_p60 : lw_okq (⟨"FearLocksModel", "nightsGo", "(I)V"⟩, 52) := ⟨⟨by decide +kernel, by decide +kernel⟩, List.mem_of_getElem? (i := 1033) (by decide +kernel), List.mem_of_getElem? (i := 1372) (by decide +kernel), List.mem_of_getElem? (i := 1373) (by decide +kernel)⟩
theorem lw_p61 : lw_okq (⟨"FearLocksModel", "nightGoes", "()V"⟩, 52) := ⟨⟨by decide +kernel, by decide +kernel⟩, List.mem_of_getElem? (i := 1033) (by decide +kernel), List.mem_of_getElem? (i := 1376) (by decide +kernel), List.mem_of_getElem? (i := 1377) (by decide +kernel)⟩
theorem lw_p62 : lw_okq (⟨"FearLocksModel", "goesOut", "(I)V"⟩, 52) := ⟨⟨by decide +kernel, by decide +kernel⟩, List.mem_of_getElem? (i := 1033) (by decide +kernel), List.mem_of_getElem? (i := 1380) (by decide +kernel), List.mem_of_getElem? (i := 1381) (by decide +kernel)⟩
theorem lw_p63 : lw_okq (⟨"FearLocksModel", "feels", "(II)V"⟩, 52) := ⟨⟨by decide +kernel, by decide +kernel⟩, List.mem_of_getElem? (i := 1033) (by decide +kernel), List.mem_of_getElem? (i := 1385) (by decide +kernel), List.mem_of_getElem? (i := 1386) (by decide +kernel)⟩
def lw_privs_4 : List (MethodName × Nat) := [(⟨"FearLocksModel", "readsDread", "(I)Z"⟩, 52), (⟨"FearLocksModel", "isLetter", "()Z"⟩, 52), (⟨"FearLocksModel", "readsMeant", "()Z"⟩, 52), (⟨"FearLocksModel", "readsAmount", "()Z"⟩, 52), (⟨"FearLocksModel", "laysAside", "()V"⟩, 52), (⟨"FearLocksModel", "readsOrder", "()Z"⟩, 52), (⟨"FearLocksModel", "readsTwo", "()Z"⟩, 52), (⟨"FearLocksModel", "readsOne", "()Z"⟩, 52), (⟨"FearLocksModel", "isTold", "(I)Z"⟩, 52), (⟨"FearLocksModel", "readsDoor", "()Z"⟩, 52), (⟨"FearLocksModel", "isDoor", "(I)Z"⟩, 52), (⟨"FearLocksModel", "putsBack", "()V"⟩, 52), (⟨"FearLocksModel", "nightsGo", "(I)V"⟩, 52), (⟨"FearLocksModel", "nightGoes", "()V"⟩, 52), (⟨"FearLocksModel", "goesOut", "(I)V"⟩, 52), (⟨"FearLocksModel", "feels", "(II)V"⟩, 52)]
theorem lw_r4 : ∀ q ∈ lw_privs_4, lw_okq q := List.forall_mem_cons.mpr ⟨lw_p48, List.forall_mem_cons.mpr ⟨lw_p49, List.forall_mem_cons.mpr ⟨lw_p50, List.forall_mem_cons.mpr ⟨lw_p51, List.forall_mem_cons.mpr ⟨lw_p52, List.forall_mem_cons.mpr ⟨lw_p53, List.forall_mem_cons.mpr ⟨lw_p54, List.forall_mem_cons.mpr ⟨lw_p55, List.forall_mem_cons.mpr ⟨lw_p56, List.forall_mem_cons.mpr ⟨lw_p57, List.forall_mem_cons.mpr ⟨lw_p58, List.forall_mem_cons.mpr ⟨lw_p59, List.forall_mem_cons.mpr ⟨lw_p60, List.forall_mem_cons.mpr ⟨lw_p61, List.forall_mem_cons.mpr ⟨lw_p62, List.forall_mem_cons.mpr ⟨lw_p63, fun _ h => absurd h List.not_mem_nil⟩⟩⟩⟩⟩⟩⟩⟩⟩⟩⟩⟩⟩⟩⟩⟩
theorem lw_p64 : lw_okq (⟨"FearLocksModel", "greatest", "(I)I"⟩, 52) := ⟨⟨by decide +kernel, by decide +kernel⟩, List.mem_of_getElem? (i := 1033) (by decide +kernel), List.mem_of_getElem? (i := 1389) (by decide +kernel), List.mem_of_getElem? (i := 1390) (by decide +kernel)⟩
theorem lw_p65 : lw_okq (⟨"FearLocksModel", "dread", "(II)I"⟩, 52) := ⟨⟨by decide +kernel, by decide +kernel⟩, List.mem_of_getElem? (i := 1033) (by decide +kernel), List.mem_of_getElem? (i := 1393) (by decide +kernel), List.mem_of_getElem? (i := 1394) (by decide +kernel)⟩
theorem lw_p66 : lw_okq (⟨"FearLocksModel", "holdsAny", "(I)Z"⟩, 52) := ⟨⟨by decide +kernel, by decide +kernel⟩, List.mem_of_getElem? (i := 1033) (by decide +kernel), List.mem_of_getElem? (i := 1400) (by decide +kernel), List.mem_of_getElem? (i := 1401) (by decide +kernel)⟩
theorem lw_p67 : lw_okq (⟨"FearLocksModel", "reckonsTo", "(II)I"⟩, 52) := ⟨⟨by decide +kernel, by decide +kernel⟩, List.mem_of_getElem? (i := 1033) (by decide +kernel), List.mem_of_getElem? (i := 1404) (by decide +kernel), List.mem_of_getElem? (i := 1405) (by decide +kernel)⟩
theorem lw_p68 : lw_okq (⟨"FearLocksModel", "likedMost", "(II)I"⟩, 52) := ⟨⟨by decide +kernel, by decide +kernel⟩, List.mem_of_getElem? (i := 1033) (by decide +kernel), List.mem_of_getElem? (i := 1411) (by decide +kernel), List.mem_of_getElem? (i := 1412) (by decide +kernel)⟩
theorem lw_p69 : lw_okq (⟨"FearLocksModel", "feelsDoor", "(III)V"⟩, 52) := ⟨⟨by decide +kernel, by decide +kernel⟩, List.mem_of_getElem? (i := 1033) (by decide +kernel), List.mem_of_getElem? (i := 1415) (by decide +kernel), List.mem_of_getElem? (i := 1416) (by decide +kernel)⟩
theorem lw_p70 : lw_okq (⟨"FearLocksModel", "byLaw", "(II)I"⟩, 52) := ⟨⟨by decide +kernel, by decide +kernel⟩, List.mem_of_getElem? (i := 1033) (by decide +kernel), List.mem_of_getElem? (i := 1419) (by decide +kernel), List.mem_of_getElem? (i := 1420) (by decide +kernel)⟩
theorem lw_p71 : lw_okq (⟨"FearLocksModel", "triesDoor", "(III)V"⟩, 52) := ⟨⟨by decide +kernel, by decide +kernel⟩, List.mem_of_getElem? (i := 1033) (by decide +kernel), List.mem_of_getElem? (i := 1423) (by decide +kernel), List.mem_of_getElem? (i := 1424) (by decide +kernel)⟩
theorem lw_p72 : lw_okq (⟨"FearLocksModel", "unlocks", "(II)Z"⟩, 52) := ⟨⟨by decide +kernel, by decide +kernel⟩, List.mem_of_getElem? (i := 1033) (by decide +kernel), List.mem_of_getElem? (i := 1427) (by decide +kernel), List.mem_of_getElem? (i := 1428) (by decide +kernel)⟩
theorem lw_p73 : lw_okq (⟨"FearLocksModel", "fearOf", "(I)I"⟩, 52) := ⟨⟨by decide +kernel, by decide +kernel⟩, List.mem_of_getElem? (i := 1033) (by decide +kernel), List.mem_of_getElem? (i := 1431) (by decide +kernel), List.mem_of_getElem? (i := 1432) (by decide +kernel)⟩
theorem lw_p74 : lw_okq (⟨"FearLocksModel", "catches", "()V"⟩, 52) := ⟨⟨by decide +kernel, by decide +kernel⟩, List.mem_of_getElem? (i := 1033) (by decide +kernel), List.mem_of_getElem? (i := 1435) (by decide +kernel), List.mem_of_getElem? (i := 1436) (by decide +kernel)⟩
theorem lw_p75 : lw_okq (⟨"FearLocksModel", "caughtBy", "(II)I"⟩, 52) := ⟨⟨by decide +kernel, by decide +kernel⟩, List.mem_of_getElem? (i := 1033) (by decide +kernel), List.mem_of_getElem? (i := 1439) (by decide +kernel), List.mem_of_getElem? (i := 1440) (by decide +kernel)⟩
theorem lw_p76 : lw_okq (⟨"FearLocksModel", "doorsOf", "(I)I"⟩, 52) := ⟨⟨by decide +kernel, by decide +kernel⟩, List.mem_of_getElem? (i := 1033) (by decide +kernel), List.mem_of_getElem? (i := 1454) (by decide +kernel), List.mem_of_getElem? (i := 1455) (by decide +kernel)⟩
theorem lw_p77 : lw_okq (⟨"FearLocksModel", "dreadSum", "(I)I"⟩, 52) := ⟨⟨by decide +kernel, by decide +kernel⟩, List.mem_of_getElem? (i := 1033) (by decide +kernel), List.mem_of_getElem? (i := 1458) (by decide +kernel), List.mem_of_getElem? (i := 1459) (by decide +kernel)⟩
theorem lw_p78 : lw_okq (⟨"FearLocksModel", "whoUnlocks", "(I)I"⟩, 52) := ⟨⟨by decide +kernel, by decide +kernel⟩, List.mem_of_getElem? (i := 1033) (by decide +kernel), List.mem_of_getElem? (i := 1466) (by decide +kernel), List.mem_of_getElem? (i := 1467) (by decide +kernel)⟩
theorem lw_p79 : lw_okq (⟨"FearLocksModel", "laysWho", "()V"⟩, 52) := ⟨⟨by decide +kernel, by decide +kernel⟩, List.mem_of_getElem? (i := 1033) (by decide +kernel), List.mem_of_getElem? (i := 1482) (by decide +kernel), List.mem_of_getElem? (i := 1483) (by decide +kernel)⟩
def lw_privs_5 : List (MethodName × Nat) := [(⟨"FearLocksModel", "greatest", "(I)I"⟩, 52), (⟨"FearLocksModel", "dread", "(II)I"⟩, 52), (⟨"FearLocksModel", "holdsAny", "(I)Z"⟩, 52), (⟨"FearLocksModel", "reckonsTo", "(II)I"⟩, 52), (⟨"FearLocksModel", "likedMost", "(II)I"⟩, 52), (⟨"FearLocksModel", "feelsDoor", "(III)V"⟩, 52), (⟨"FearLocksModel", "byLaw", "(II)I"⟩, 52), (⟨"FearLocksModel", "triesDoor", "(III)V"⟩, 52), (⟨"FearLocksModel", "unlocks", "(II)Z"⟩, 52), (⟨"FearLocksModel", "fearOf", "(I)I"⟩, 52), (⟨"FearLocksModel", "catches", "()V"⟩, 52), (⟨"FearLocksModel", "caughtBy", "(II)I"⟩, 52), (⟨"FearLocksModel", "doorsOf", "(I)I"⟩, 52), (⟨"FearLocksModel", "dreadSum", "(I)I"⟩, 52), (⟨"FearLocksModel", "whoUnlocks", "(I)I"⟩, 52), (⟨"FearLocksModel", "laysWho", "()V"⟩, 52)]
theorem lw_r5 : ∀ q ∈ lw_privs_5, lw_okq q := List.forall_mem_cons.mpr ⟨lw_p64, List.forall_mem_cons.mpr ⟨lw_p65, List.forall_mem_cons.mpr ⟨lw_p66, List.forall_mem_cons.mpr ⟨lw_p67, List.forall_mem_cons.mpr ⟨lw_p68, List.forall_mem_cons.mpr ⟨lw_p69, List.forall_mem_cons.mpr ⟨lw_p70, List.forall_mem_cons.mpr ⟨lw_p71, List.forall_mem_cons.mpr ⟨lw_p72, List.forall_mem_cons.mpr ⟨lw_p73, List.forall_mem_cons.mpr ⟨lw_p74, List.forall_mem_cons.mpr ⟨lw_p75, List.forall_mem_cons.mpr ⟨lw_p76, List.forall_mem_cons.mpr ⟨lw_p77, List.forall_mem_cons.mpr ⟨lw_p78, List.forall_mem_cons.mpr ⟨lw_p79, fun _ h => absurd h List.not_mem_nil⟩⟩⟩⟩⟩⟩⟩⟩⟩⟩⟩⟩⟩⟩⟩⟩
theorem lw_p80 : lw_okq (⟨"FearLocksModel", "isCrew", "(I)Z"⟩, 52) := ⟨⟨by decide +kernel, by decide +kernel⟩, List.mem_of_getElem? (i := 1033) (by decide +kernel), List.mem_of_getElem? (i := 1486) (by decide +kernel), List.mem_of_getElem? (i := 1487) (by decide +kernel)⟩
theorem lw_p81 : lw_okq (⟨"FearLocksModel", "areCouple", "(III)Z"⟩, 52) := ⟨⟨by decide +kernel, by decide +kernel⟩, List.mem_of_getElem? (i := 1033) (by decide +kernel), List.mem_of_getElem? (i := 1498) (by decide +kernel), List.mem_of_getElem? (i := 1499) (by decide +kernel)⟩
theorem lw_p82 : lw_okq (⟨"FearLocksModel", "firstWith", "(I)I"⟩, 52) := ⟨⟨by decide +kernel, by decide +kernel⟩, List.mem_of_getElem? (i := 1033) (by decide +kernel), List.mem_of_getElem? (i := 1509) (by decide +kernel), List.mem_of_getElem? (i := 1510) (by decide +kernel)⟩
theorem lw_p83 : lw_okq (⟨"FearLocksModel", "unlikeBy", "(II)I"⟩, 52) := ⟨⟨by decide +kernel, by decide +kernel⟩, List.mem_of_getElem? (i := 1033) (by decide +kernel), List.mem_of_getElem? (i := 1521) (by decide +kernel), List.mem_of_getElem? (i := 1522) (by decide +kernel)⟩
theorem lw_p84 : lw_okq (⟨"FearLocksModel", "circleOf", "(II)I"⟩, 52) := ⟨⟨by decide +kernel, by decide +kernel⟩, List.mem_of_getElem? (i := 1033) (by decide +kernel), List.mem_of_getElem? (i := 1533) (by decide +kernel), List.mem_of_getElem? (i := 1534) (by decide +kernel)⟩
theorem lw_p85 : lw_okq (⟨"FearLocksModel", "isKeystone", "(I)Z"⟩, 52) := ⟨⟨by decide +kernel, by decide +kernel⟩, List.mem_of_getElem? (i := 1033) (by decide +kernel), List.mem_of_getElem? (i := 1541) (by decide +kernel), List.mem_of_getElem? (i := 1542) (by decide +kernel)⟩
theorem lw_p86 : lw_okq (⟨"FearLocksModel", "groupOf", "(II)I"⟩, 52) := ⟨⟨by decide +kernel, by decide +kernel⟩, List.mem_of_getElem? (i := 1033) (by decide +kernel), List.mem_of_getElem? (i := 1545) (by decide +kernel), List.mem_of_getElem? (i := 1546) (by decide +kernel)⟩
theorem lw_p87 : lw_okq (⟨"FearLocksModel", "octet", "(I)I"⟩, 52) := ⟨⟨by decide +kernel, by decide +kernel⟩, List.mem_of_getElem? (i := 1033) (by decide +kernel), List.mem_of_getElem? (i := 1557) (by decide +kernel), List.mem_of_getElem? (i := 1558) (by decide +kernel)⟩
theorem lw_p88 : lw_okq (⟨"FearLocksModel", "bounds", "(II)Z"⟩, 52) := ⟨⟨by decide +kernel, by decide +kernel⟩, List.mem_of_getElem? (i := 1033) (by decide +kernel), List.mem_of_getElem? (i := 1561) (by decide +kernel), List.mem_of_getElem? (i := 1562) (by decide +kernel)⟩
theorem lw_p89 : lw_okq (⟨"FearLocksModel", "leaves", "(II)I"⟩, 52) := ⟨⟨by decide +kernel, by decide +kernel⟩, List.mem_of_getElem? (i := 1033) (by decide +kernel), List.mem_of_getElem? (i := 1569) (by decide +kernel), List.mem_of_getElem? (i := 1570) (by decide +kernel)⟩
theorem lw_p90 : lw_okq (⟨"FearLocksModel", "canStand", "(I)Z"⟩, 52) := ⟨⟨by decide +kernel, by decide +kernel⟩, List.mem_of_getElem? (i := 1033) (by decide +kernel), List.mem_of_getElem? (i := 1577) (by decide +kernel), List.mem_of_getElem? (i := 1578) (by decide +kernel)⟩
theorem lw_p91 : lw_okq (⟨"FearLocksModel", "nextOrder", "(I)Z"⟩, 52) := ⟨⟨by decide +kernel, by decide +kernel⟩, List.mem_of_getElem? (i := 1033) (by decide +kernel), List.mem_of_getElem? (i := 1581) (by decide +kernel), List.mem_of_getElem? (i := 1582) (by decide +kernel)⟩
theorem lw_p92 : lw_okq (⟨"FearLocksModel", "changesOrder", "(II)V"⟩, 52) := ⟨⟨by decide +kernel, by decide +kernel⟩, List.mem_of_getElem? (i := 1033) (by decide +kernel), List.mem_of_getElem? (i := 1585) (by decide +kernel), List.mem_of_getElem? (i := 1586) (by decide +kernel)⟩
theorem lw_p93 : lw_okq (⟨"FearLocksModel", "sleeps", "(III)I"⟩, 52) := ⟨⟨by decide +kernel, by decide +kernel⟩, List.mem_of_getElem? (i := 1033) (by decide +kernel), List.mem_of_getElem? (i := 1598) (by decide +kernel), List.mem_of_getElem? (i := 1599) (by decide +kernel)⟩
theorem lw_p94 : lw_okq (⟨"FearLocksModel", "twos", "()I"⟩, 52) := ⟨⟨by decide +kernel, by decide +kernel⟩, List.mem_of_getElem? (i := 1033) (by decide +kernel), List.mem_of_getElem? (i := 1622) (by decide +kernel), List.mem_of_getElem? (i := 1623) (by decide +kernel)⟩
theorem lw_p95 : lw_okq (⟨"FearLocksModel", "openedOfAll", "()I"⟩, 52) := ⟨⟨by decide +kernel, by decide +kernel⟩, List.mem_of_getElem? (i := 1033) (by decide +kernel), List.mem_of_getElem? (i := 1626) (by decide +kernel), List.mem_of_getElem? (i := 1627) (by decide +kernel)⟩
def lw_privs_6 : List (MethodName × Nat) := [(⟨"FearLocksModel", "isCrew", "(I)Z"⟩, 52), (⟨"FearLocksModel", "areCouple", "(III)Z"⟩, 52), (⟨"FearLocksModel", "firstWith", "(I)I"⟩, 52), (⟨"FearLocksModel", "unlikeBy", "(II)I"⟩, 52), (⟨"FearLocksModel", "circleOf", "(II)I"⟩, 52), (⟨"FearLocksModel", "isKeystone", "(I)Z"⟩, 52), (⟨"FearLocksModel", "groupOf", "(II)I"⟩, 52), (⟨"FearLocksModel", "octet", "(I)I"⟩, 52), (⟨"FearLocksModel", "bounds", "(II)Z"⟩, 52), (⟨"FearLocksModel", "leaves", "(II)I"⟩, 52), (⟨"FearLocksModel", "canStand", "(I)Z"⟩, 52), (⟨"FearLocksModel", "nextOrder", "(I)Z"⟩, 52), (⟨"FearLocksModel", "changesOrder", "(II)V"⟩, 52), (⟨"FearLocksModel", "sleeps", "(III)I"⟩, 52), (⟨"FearLocksModel", "twos", "()I"⟩, 52), (⟨"FearLocksModel", "openedOfAll", "()I"⟩, 52)]
theorem lw_r6 : ∀ q ∈ lw_privs_6, lw_okq q := List.forall_mem_cons.mpr ⟨lw_p80, List.forall_mem_cons.mpr ⟨lw_p81, List.forall_mem_cons.mpr ⟨lw_p82, List.forall_mem_cons.mpr ⟨lw_p83, List.forall_mem_cons.mpr ⟨lw_p84, List.forall_mem_cons.mpr ⟨lw_p85, List.forall_mem_cons.mpr ⟨lw_p86, List.forall_mem_cons.mpr ⟨lw_p87, List.forall_mem_cons.mpr ⟨lw_p88, List.forall_mem_cons.mpr ⟨lw_p89, List.forall_mem_cons.mpr ⟨lw_p90, List.forall_mem_cons.mpr ⟨lw_p91, List.forall_mem_cons.mpr ⟨lw_p92, List.forall_mem_cons.mpr ⟨lw_p93, List.forall_mem_cons.mpr ⟨lw_p94, List.forall_mem_cons.mpr ⟨lw_p95, fun _ h => absurd h List.not_mem_nil⟩⟩⟩⟩⟩⟩⟩⟩⟩⟩⟩⟩⟩⟩⟩⟩
def lw_privs : List (MethodName × Nat) := lw_privs_1 ++ (lw_privs_2 ++ (lw_privs_3 ++ (lw_privs_4 ++ (lw_privs_5 ++ (lw_privs_6)))))
def lw_tbl : List Cond := k2_sels lw_privs ++ tables_1
theorem lw_privs_ok : ∀ q ∈ lw_privs, lw_okq q := by
  show ∀ q ∈ lw_privs_1 ++ (lw_privs_2 ++ (lw_privs_3 ++ (lw_privs_4 ++ (lw_privs_5 ++ (lw_privs_6))))), lw_okq q
  exact List.forall_mem_append.mpr ⟨lw_r1, List.forall_mem_append.mpr ⟨lw_r2, List.forall_mem_append.mpr ⟨lw_r3, List.forall_mem_append.mpr ⟨lw_r4, List.forall_mem_append.mpr ⟨lw_r5, lw_r6⟩⟩⟩⟩⟩
def fx_TB : List Cond := lw_tbl.filter goodWord
theorem fx_mem {w : Cond} (i : Nat) (h : lw_tbl[i]? = some w) (g : goodWord w = true) : w ∈ fx_TB := List.mem_filter.mpr ⟨List.mem_of_getElem? h, g⟩
theorem fx_good {w : Cond} (h : w ∈ fx_TB) : (w.onTables && w.keeps) = true ∨ ∃ ty, w = .arrayClass ty := good_of_word (List.mem_filter.mp h).2
theorem fx_in {w : Cond} (h : w ∈ fx_TB) : w ∈ lw_tbl := (List.mem_filter.mp h).1
end
section
def RX0 : String := "FearLocks$City"
def TX0 : u_T := fun k => match k with
  | 0 => ("FearLocks$City", "dread", "[[I", true)
  | 1 => ("FearLocks$City", "knows", "[I", true)
  | 2 => ("FearLocks$City", "doorFear", "[I", true)
  | 3 => ("FearLocks$City", "strength", "[I", true)
  | 4 => ("FearLocks$City", "opened", "[I", true)
  | 5 => ("FearLocks$City", "people", "I", false)
  | 6 => ("FearLocks$City", "doors", "I", false)
  | 7 => ("FearLocks$City", "night", "I", false)
  | _ => ("FearLocks$City", "x", "I", false)
def tyX0 : Nat → FieldType := fun k => match k with
  | 0 => .array (.array .int)
  | 1 => .array .int
  | 2 => .array .int
  | 3 => .array .int
  | 4 => .array .int
  | 5 => .int
  | 6 => .int
  | 7 => .int
  | _ => .int
theorem nmX0 : ∀ a, a < 9 → ∀ b, b < 9 → a ≠ b → (TX0 a).2.1 ≠ (TX0 b).2.1 := by decide +kernel
theorem tyX0_ok : ∀ k, k < 9 → parseFieldDescriptor (TX0 k).2.2.1 = some (tyX0 k) := by decide +kernel
abbrev cX0_init : ByteArray := prog_2_method_1_code
def yX0_init : MethodName := ⟨RX0, "<init>", "()V"⟩
abbrev cX0_isPerson : ByteArray := prog_2_method_2_code
def yX0_isPerson : MethodName := ⟨RX0, "isPerson", "(I)Z"⟩
abbrev cX0_isDoor : ByteArray := prog_2_method_3_code
def yX0_isDoor : MethodName := ⟨RX0, "isDoor", "(I)Z"⟩
abbrev cX0_dreadOf : ByteArray := prog_2_method_4_code
def yX0_dreadOf : MethodName := ⟨RX0, "dreadOf", "(II)I"⟩
abbrev cX0_setDread : ByteArray := prog_2_method_5_code
def yX0_setDread : MethodName := ⟨RX0, "setDread", "(III)V"⟩
abbrev cX0_greatestDread : ByteArray := prog_2_method_6_code
def yX0_greatestDread : MethodName := ⟨RX0, "greatestDread", "(I)I"⟩
abbrev cX0_dreadInAll : ByteArray := prog_2_method_7_code
def yX0_dreadInAll : MethodName := ⟨RX0, "dreadInAll", "(I)I"⟩
abbrev cX0_fearOf : ByteArray := prog_2_method_8_code
def yX0_fearOf : MethodName := ⟨RX0, "fearOf", "(I)I"⟩
abbrev cX0_havingFear : ByteArray := prog_2_method_9_code
def yX0_havingFear : MethodName := ⟨RX0, "havingFear", "(I)I"⟩
abbrev cX0_nobodysFears : ByteArray := prog_2_method_10_code
def yX0_nobodysFears : MethodName := ⟨RX0, "nobodysFears", "()I"⟩
abbrev cX0_allsFears : ByteArray := prog_2_method_11_code
def yX0_allsFears : MethodName := ⟨RX0, "allsFears", "()I"⟩
abbrev cX0_fearsFrom : ByteArray := prog_2_method_12_code
def yX0_fearsFrom : MethodName := ⟨RX0, "fearsFrom", "(II)I"⟩
abbrev cX0_knownTo : ByteArray := prog_2_method_13_code
def yX0_knownTo : MethodName := ⟨RX0, "knownTo", "(I)I"⟩
abbrev cX0_acquaint : ByteArray := prog_2_method_14_code
def yX0_acquaint : MethodName := ⟨RX0, "acquaint", "(IIZ)V"⟩
abbrev cX0_acquaintances : ByteArray := prog_2_method_15_code
def yX0_acquaintances : MethodName := ⟨RX0, "acquaintances", "()I"⟩
abbrev cX0_tellDoor : ByteArray := prog_2_method_16_code
def yX0_tellDoor : MethodName := ⟨RX0, "tellDoor", "(III)V"⟩
abbrev cX0_dropDoor : ByteArray := prog_2_method_17_code
def yX0_dropDoor : MethodName := ⟨RX0, "dropDoor", "(I)V"⟩
abbrev cX0_opens : ByteArray := prog_2_method_18_code
def yX0_opens : MethodName := ⟨RX0, "opens", "(II)Z"⟩
abbrev cX0_doorsOpenTo : ByteArray := prog_2_method_19_code
def yX0_doorsOpenTo : MethodName := ⟨RX0, "doorsOpenTo", "(I)I"⟩
abbrev cX0_openersOf : ByteArray := prog_2_method_20_code
def yX0_openersOf : MethodName := ⟨RX0, "openersOf", "(I)I"⟩
abbrev cX0_openedOf : ByteArray := prog_2_method_21_code
def yX0_openedOf : MethodName := ⟨RX0, "openedOf", "(I)I"⟩
abbrev cX0_openedInAll : ByteArray := prog_2_method_22_code
def yX0_openedInAll : MethodName := ⟨RX0, "openedInAll", "()I"⟩
abbrev cX0_draw : ByteArray := prog_2_method_23_code
def yX0_draw : MethodName := ⟨RX0, "draw", "()I"⟩
abbrev cX0_copyFrom : ByteArray := prog_2_method_24_code
def yX0_copyFrom : MethodName := ⟨RX0, "copyFrom", "(LFearLocks$City;)V"⟩
abbrev cX0_copyDreads : ByteArray := prog_2_method_25_code
def yX0_copyDreads : MethodName := ⟨RX0, "copyDreads", "(LFearLocks$City;)V"⟩
abbrev cX0_goBackTo : ByteArray := prog_2_method_26_code
def yX0_goBackTo : MethodName := ⟨RX0, "goBackTo", "(LFearLocks$City;)V"⟩
def RX1 : String := "FearLocks$Company"
def TX1 : u_T := fun k => match k with
  | 0 => ("FearLocks$Company", "links", "[I", true)
  | _ => ("FearLocks$Company", "couplesIn", "[I", true)
def tyX1 : Nat → FieldType := fun k => match k with
  | 0 => .array .int
  | _ => .array .int
theorem nmX1 : ∀ a, a < 2 → ∀ b, b < 2 → a ≠ b → (TX1 a).2.1 ≠ (TX1 b).2.1 := by decide +kernel
theorem tyX1_ok : ∀ k, k < 2 → parseFieldDescriptor (TX1 k).2.2.1 = some (tyX1 k) := by decide +kernel
abbrev cX1_init : ByteArray := prog_3_method_1_code
def yX1_init : MethodName := ⟨RX1, "<init>", "()V"⟩
abbrev cX1_beside : ByteArray := prog_3_method_2_code
def yX1_beside : MethodName := ⟨RX1, "beside", "([II)I"⟩
abbrev cX1_reached : ByteArray := prog_3_method_3_code
def yX1_reached : MethodName := ⟨RX1, "reached", "([III)I"⟩
abbrev cX1_holdersTogether : ByteArray := prog_3_method_4_code
def yX1_holdersTogether : MethodName := ⟨RX1, "holdersTogether", "(LFearLocks$City;)I"⟩
abbrev cX1_stepsBetween : ByteArray := prog_3_method_5_code
def yX1_stepsBetween : MethodName := ⟨RX1, "stepsBetween", "(LFearLocks$City;II)I"⟩
abbrev cX1_grownFashion : ByteArray := prog_3_method_6_code
def yX1_grownFashion : MethodName := ⟨RX1, "grownFashion", "(LFearLocks$City;II)I"⟩
abbrev cX1_difference : ByteArray := prog_3_method_7_code
def yX1_difference : MethodName := ⟨RX1, "difference", "(LFearLocks$City;II)I"⟩
abbrev cX1_nearestTo : ByteArray := prog_3_method_8_code
def yX1_nearestTo : MethodName := ⟨RX1, "nearestTo", "(LFearLocks$City;I)I"⟩
abbrev cX1_linkAlike : ByteArray := prog_3_method_9_code
def yX1_linkAlike : MethodName := ⟨RX1, "linkAlike", "(LFearLocks$City;I)V"⟩
abbrev cX1_circleOf : ByteArray := prog_3_method_10_code
def yX1_circleOf : MethodName := ⟨RX1, "circleOf", "(II)I"⟩
abbrev cX1_circlesOf : ByteArray := prog_3_method_11_code
def yX1_circlesOf : MethodName := ⟨RX1, "circlesOf", "(I)I"⟩
abbrev cX1_mostCouples : ByteArray := prog_3_method_12_code
def yX1_mostCouples : MethodName := ⟨RX1, "mostCouples", "(LFearLocks$City;I)I"⟩
abbrev cX1_linkFellows : ByteArray := prog_3_method_13_code
def yX1_linkFellows : MethodName := ⟨RX1, "linkFellows", "(LFearLocks$City;I)V"⟩
abbrev cX1_mostWith : ByteArray := prog_3_method_14_code
def yX1_mostWith : MethodName := ⟨RX1, "mostWith", "(II)I"⟩
def RX2 : String := "FearLocks$DreadsReader"
def TX2 : u_T := fun k => match k with
  | 0 => ("FearLocks$LinesReader", "text", "LFearLocks$Tape;", true)
  | 1 => ("FearLocks$DreadsReader", "city", "LFearLocks$City;", true)
  | _ => ("FearLocks$DreadsReader", "person", "I", true)
def tyX2 : Nat → FieldType := fun k => match k with
  | 0 => .object "FearLocks$Tape"
  | 1 => .object "FearLocks$City"
  | _ => .int
theorem nmX2 : ∀ a, a < 3 → ∀ b, b < 3 → a ≠ b → (TX2 a).2.1 ≠ (TX2 b).2.1 := by decide +kernel
theorem tyX2_ok : ∀ k, k < 3 → parseFieldDescriptor (TX2 k).2.2.1 = some (tyX2 k) := by decide +kernel
abbrev cX2_init : ByteArray := prog_4_method_1_code
def yX2_init : MethodName := ⟨RX2, "<init>", "(LFearLocks$Tape;LFearLocks$City;I)V"⟩
abbrev cX2_startsLine : ByteArray := prog_4_method_2_code
def yX2_startsLine : MethodName := ⟨RX2, "startsLine", "(I)Z"⟩
abbrev cX2_readLine : ByteArray := prog_4_method_3_code
def yX2_readLine : MethodName := ⟨RX2, "readLine", "()Z"⟩
abbrev cX2_readFears : ByteArray := prog_4_method_4_code
def yX2_readFears : MethodName := ⟨RX2, "readFears", "()I"⟩
abbrev cX2_change : ByteArray := prog_4_method_5_code
def yX2_change : MethodName := ⟨RX2, "change", "(III)V"⟩
def RX3 : String := "FearLocks$Keys"
def TX3 : u_T := fun k => match k with
  | _ => ("FearLocks$Keys", "opens", "[I", true)
def tyX3 : Nat → FieldType := fun k => match k with
  | _ => .array .int
theorem nmX3 : ∀ a, a < 1 → ∀ b, b < 1 → a ≠ b → (TX3 a).2.1 ≠ (TX3 b).2.1 := by decide +kernel
theorem tyX3_ok : ∀ k, k < 1 → parseFieldDescriptor (TX3 k).2.2.1 = some (tyX3 k) := by decide +kernel
abbrev cX3_init : ByteArray := prog_5_method_1_code
def yX3_init : MethodName := ⟨RX3, "<init>", "()V"⟩
abbrev cX3_lessons : ByteArray := prog_5_method_2_code
def yX3_lessons : MethodName := ⟨RX3, "lessons", "(LFearLocks$City;II)I"⟩
abbrev cX3_fewestForAllDoors : ByteArray := prog_5_method_3_code
def yX3_fewestForAllDoors : MethodName := ⟨RX3, "fewestForAllDoors", "(LFearLocks$City;)I"⟩
abbrev cX3_openedBy : ByteArray := prog_5_method_4_code
def yX3_openedBy : MethodName := ⟨RX3, "openedBy", "(I)I"⟩
abbrev cX3_mostLet : ByteArray := prog_5_method_5_code
def yX3_mostLet : MethodName := ⟨RX3, "mostLet", "(LFearLocks$City;)I"⟩
abbrev cX3_triesFit : ByteArray := prog_5_method_6_code
def yX3_triesFit : MethodName := ⟨RX3, "triesFit", "(LFearLocks$Tape;LFearLocks$City;I)Z"⟩
abbrev cX3_possibleFears : ByteArray := prog_5_method_7_code
def yX3_possibleFears : MethodName := ⟨RX3, "possibleFears", "(LFearLocks$Tape;LFearLocks$City;I)I"⟩
abbrev cX3_leastStrength : ByteArray := prog_5_method_8_code
def yX3_leastStrength : MethodName := ⟨RX3, "leastStrength", "(LFearLocks$Tape;LFearLocks$City;II)I"⟩
abbrev cX3_greatestStrength : ByteArray := prog_5_method_9_code
def yX3_greatestStrength : MethodName := ⟨RX3, "greatestStrength", "(LFearLocks$Tape;LFearLocks$City;II)I"⟩
abbrev cX3_bestToSend : ByteArray := prog_5_method_10_code
def yX3_bestToSend : MethodName := ⟨RX3, "bestToSend", "(LFearLocks$City;I)I"⟩
abbrev cX3_leftAtWorst : ByteArray := prog_5_method_11_code
def yX3_leftAtWorst : MethodName := ⟨RX3, "leftAtWorst", "(LFearLocks$City;II)I"⟩
def RX4 : String := "FearLocks$Law"
def TX4 : u_T := fun k => match k with
  | 0 => ("FearLocks$Law", "step", "[I", true)
  | 1 => ("FearLocks$Law", "detail", "[I", true)
  | 2 => ("FearLocks$Law", "steps", "I", false)
  | 3 => ("FearLocks$Law", "kind", "[I", true)
  | 4 => ("FearLocks$Law", "worthFrom", "[I", true)
  | 5 => ("FearLocks$Law", "conditionFrom", "[I", true)
  | 6 => ("FearLocks$Law", "rules", "I", false)
  | 7 => ("FearLocks$Law", "meaning", "[I", true)
  | 8 => ("FearLocks$Law", "stack", "[I", true)
  | _ => ("FearLocks$Law", "high", "I", false)
def tyX4 : Nat → FieldType := fun k => match k with
  | 0 => .array .int
  | 1 => .array .int
  | 2 => .int
  | 3 => .array .int
  | 4 => .array .int
  | 5 => .array .int
  | 6 => .int
  | 7 => .array .int
  | 8 => .array .int
  | _ => .int
theorem nmX4 : ∀ a, a < 10 → ∀ b, b < 10 → a ≠ b → (TX4 a).2.1 ≠ (TX4 b).2.1 := by decide +kernel
theorem tyX4_ok : ∀ k, k < 10 → parseFieldDescriptor (TX4 k).2.2.1 = some (tyX4 k) := by decide +kernel
abbrev cX4_init : ByteArray := prog_6_method_1_code
def yX4_init : MethodName := ⟨RX4, "<init>", "()V"⟩
abbrev cX4_clear : ByteArray := prog_6_method_2_code
def yX4_clear : MethodName := ⟨RX4, "clear", "()V"⟩
abbrev cX4_startRule : ByteArray := prog_6_method_3_code
def yX4_startRule : MethodName := ⟨RX4, "startRule", "(I)V"⟩
abbrev cX4_startCondition : ByteArray := prog_6_method_4_code
def yX4_startCondition : MethodName := ⟨RX4, "startCondition", "()V"⟩
abbrev cX4_endRule : ByteArray := prog_6_method_5_code
def yX4_endRule : MethodName := ⟨RX4, "endRule", "()V"⟩
abbrev cX4_add : ByteArray := prog_6_method_6_code
def yX4_add : MethodName := ⟨RX4, "add", "(II)I"⟩
abbrev cX4_leadHere : ByteArray := prog_6_method_7_code
def yX4_leadHere : MethodName := ⟨RX4, "leadHere", "(I)V"⟩
abbrev cX4_meanPerson : ByteArray := prog_6_method_8_code
def yX4_meanPerson : MethodName := ⟨RX4, "meanPerson", "(III)V"⟩
abbrev cX4_meanOther : ByteArray := prog_6_method_9_code
def yX4_meanOther : MethodName := ⟨RX4, "meanOther", "(III)V"⟩
abbrev cX4_meanDoor : ByteArray := prog_6_method_10_code
def yX4_meanDoor : MethodName := ⟨RX4, "meanDoor", "(II)V"⟩
abbrev cX4_meanTime : ByteArray := prog_6_method_11_code
def yX4_meanTime : MethodName := ⟨RX4, "meanTime", "(II)V"⟩
abbrev cX4_anyHolds : ByteArray := prog_6_method_12_code
def yX4_anyHolds : MethodName := ⟨RX4, "anyHolds", "(I)Z"⟩
abbrev cX4_worth : ByteArray := prog_6_method_13_code
def yX4_worth : MethodName := ⟨RX4, "worth", "(II)I"⟩
abbrev cX4_reckon : ByteArray := prog_6_method_14_code
def yX4_reckon : MethodName := ⟨RX4, "reckon", "(I)I"⟩
abbrev cX4_joined : ByteArray := prog_6_method_15_code
def yX4_joined : MethodName := ⟨RX4, "joined", "(III)I"⟩
abbrev cX4_meaningOf : ByteArray := prog_6_method_16_code
def yX4_meaningOf : MethodName := ⟨RX4, "meaningOf", "(I)I"⟩
abbrev cX4_push : ByteArray := prog_6_method_17_code
def yX4_push : MethodName := ⟨RX4, "push", "(I)V"⟩
abbrev cX4_pop : ByteArray := prog_6_method_18_code
def yX4_pop : MethodName := ⟨RX4, "pop", "()I"⟩
def RX5 : String := "FearLocks$LawReader"
def TX5 : u_T := fun k => match k with
  | 0 => ("FearLocks$LinesReader", "text", "LFearLocks$Tape;", true)
  | _ => ("FearLocks$LawReader", "law", "LFearLocks$Law;", true)
def tyX5 : Nat → FieldType := fun k => match k with
  | 0 => .object "FearLocks$Tape"
  | _ => .object "FearLocks$Law"
theorem nmX5 : ∀ a, a < 2 → ∀ b, b < 2 → a ≠ b → (TX5 a).2.1 ≠ (TX5 b).2.1 := by decide +kernel
theorem tyX5_ok : ∀ k, k < 2 → parseFieldDescriptor (TX5 k).2.2.1 = some (tyX5 k) := by decide +kernel
abbrev cX5_init : ByteArray := prog_7_method_1_code
def yX5_init : MethodName := ⟨RX5, "<init>", "(LFearLocks$Tape;LFearLocks$Law;)V"⟩
abbrev cX5_startsLine : ByteArray := prog_7_method_2_code
def yX5_startsLine : MethodName := ⟨RX5, "startsLine", "(I)Z"⟩
abbrev cX5_readLine : ByteArray := prog_7_method_3_code
def yX5_readLine : MethodName := ⟨RX5, "readLine", "()Z"⟩
abbrev cX5_readAnyOf : ByteArray := prog_7_method_4_code
def yX5_readAnyOf : MethodName := ⟨RX5, "readAnyOf", "(I)Z"⟩
abbrev cX5_readAllOf : ByteArray := prog_7_method_5_code
def yX5_readAllOf : MethodName := ⟨RX5, "readAllOf", "(I)Z"⟩
abbrev cX5_readTest : ByteArray := prog_7_method_6_code
def yX5_readTest : MethodName := ⟨RX5, "readTest", "(I)Z"⟩
abbrev cX5_readNegation : ByteArray := prog_7_method_7_code
def yX5_readNegation : MethodName := ⟨RX5, "readNegation", "(I)Z"⟩
abbrev cX5_open : ByteArray := prog_7_method_8_code
def yX5_open : MethodName := ⟨RX5, "open", "(I)Z"⟩
abbrev cX5_readComparison : ByteArray := prog_7_method_9_code
def yX5_readComparison : MethodName := ⟨RX5, "readComparison", "(I)Z"⟩
abbrev cX5_readSum : ByteArray := prog_7_method_10_code
def yX5_readSum : MethodName := ⟨RX5, "readSum", "(I)Z"⟩
abbrev cX5_readProduct : ByteArray := prog_7_method_11_code
def yX5_readProduct : MethodName := ⟨RX5, "readProduct", "(I)Z"⟩
abbrev cX5_joinsFactors : ByteArray := prog_7_method_12_code
def yX5_joinsFactors : MethodName := ⟨RX5, "joinsFactors", "(I)Z"⟩
abbrev cX5_readFactor : ByteArray := prog_7_method_13_code
def yX5_readFactor : MethodName := ⟨RX5, "readFactor", "(I)Z"⟩
def RX6 : String := "FearLocks$LinesReader"
def TX6 : u_T := fun k => match k with
  | _ => ("", "", "", false)
def tyX6 : Nat → FieldType := fun k => match k with
  | _ => .int
theorem nmX6 : ∀ a, a < 0 → ∀ b, b < 0 → a ≠ b → (TX6 a).2.1 ≠ (TX6 b).2.1 := by decide +kernel
theorem tyX6_ok : ∀ k, k < 0 → parseFieldDescriptor (TX6 k).2.2.1 = some (tyX6 k) := by decide +kernel
abbrev cX6_init : ByteArray := prog_8_method_1_code
def yX6_init : MethodName := ⟨RX6, "<init>", "(LFearLocks$Tape;)V"⟩
abbrev cX6_readLines : ByteArray := prog_8_method_4_code
def yX6_readLines : MethodName := ⟨RX6, "readLines", "(I)I"⟩
def RX7 : String := "FearLocks$Nightfall"
def TX7 : u_T := fun k => match k with
  | 0 => ("FearLocks$Nightfall", "behindDoors", "LFearLocks$City;", true)
  | 1 => ("FearLocks$Nightfall", "openings", "I", false)
  | _ => ("FearLocks$Nightfall", "failures", "I", false)
def tyX7 : Nat → FieldType := fun k => match k with
  | 0 => .object "FearLocks$City"
  | 1 => .int
  | _ => .int
theorem nmX7 : ∀ a, a < 3 → ∀ b, b < 3 → a ≠ b → (TX7 a).2.1 ≠ (TX7 b).2.1 := by decide +kernel
theorem tyX7_ok : ∀ k, k < 3 → parseFieldDescriptor (TX7 k).2.2.1 = some (tyX7 k) := by decide +kernel
abbrev cX7_init : ByteArray := prog_9_method_1_code
def yX7_init : MethodName := ⟨RX7, "<init>", "()V"⟩
abbrev cX7_pass : ByteArray := prog_9_method_2_code
def yX7_pass : MethodName := ⟨RX7, "pass", "(LFearLocks$City;LFearLocks$Law;I)V"⟩
abbrev cX7_goOut : ByteArray := prog_9_method_3_code
def yX7_goOut : MethodName := ⟨RX7, "goOut", "(LFearLocks$City;LFearLocks$Law;I)V"⟩
abbrev cX7_doorTried : ByteArray := prog_9_method_4_code
def yX7_doorTried : MethodName := ⟨RX7, "doorTried", "(LFearLocks$City;LFearLocks$Law;I)I"⟩
abbrev cX7_meanDoorFor : ByteArray := prog_9_method_5_code
def yX7_meanDoorFor : MethodName := ⟨RX7, "meanDoorFor", "(LFearLocks$City;LFearLocks$Law;II)V"⟩
abbrev cX7_tryDoor : ByteArray := prog_9_method_6_code
def yX7_tryDoor : MethodName := ⟨RX7, "tryDoor", "(LFearLocks$City;LFearLocks$Law;II)V"⟩
abbrev cX7_spreadDread : ByteArray := prog_9_method_7_code
def yX7_spreadDread : MethodName := ⟨RX7, "spreadDread", "(LFearLocks$City;LFearLocks$Law;)V"⟩
abbrev cX7_catchDread : ByteArray := prog_9_method_8_code
def yX7_catchDread : MethodName := ⟨RX7, "catchDread", "(LFearLocks$City;LFearLocks$Law;II)V"⟩
def RX8 : String := "FearLocks$OrdersReader"
def TX8 : u_T := fun k => match k with
  | 0 => ("FearLocks$LinesReader", "text", "LFearLocks$Tape;", true)
  | _ => ("FearLocks$OrdersReader", "city", "LFearLocks$City;", true)
def tyX8 : Nat → FieldType := fun k => match k with
  | 0 => .object "FearLocks$Tape"
  | _ => .object "FearLocks$City"
theorem nmX8 : ∀ a, a < 2 → ∀ b, b < 2 → a ≠ b → (TX8 a).2.1 ≠ (TX8 b).2.1 := by decide +kernel
theorem tyX8_ok : ∀ k, k < 2 → parseFieldDescriptor (TX8 k).2.2.1 = some (tyX8 k) := by decide +kernel
abbrev cX8_init : ByteArray := prog_10_method_1_code
def yX8_init : MethodName := ⟨RX8, "<init>", "(LFearLocks$Tape;LFearLocks$City;)V"⟩
abbrev cX8_startsLine : ByteArray := prog_10_method_2_code
def yX8_startsLine : MethodName := ⟨RX8, "startsLine", "(I)Z"⟩
abbrev cX8_readLine : ByteArray := prog_10_method_3_code
def yX8_readLine : MethodName := ⟨RX8, "readLine", "()Z"⟩
abbrev cX8_readAcquaintance : ByteArray := prog_10_method_4_code
def yX8_readAcquaintance : MethodName := ⟨RX8, "readAcquaintance", "()Z"⟩
abbrev cX8_readPerson : ByteArray := prog_10_method_5_code
def yX8_readPerson : MethodName := ⟨RX8, "readPerson", "()I"⟩
abbrev cX8_readDoor : ByteArray := prog_10_method_6_code
def yX8_readDoor : MethodName := ⟨RX8, "readDoor", "()Z"⟩
abbrev cX8_readLock : ByteArray := prog_10_method_7_code
def yX8_readLock : MethodName := ⟨RX8, "readLock", "(I)Z"⟩
def RX9 : String := "FearLocks$Pastimes"
def TX9 : u_T := fun k => match k with
  | 0 => ("FearLocks$Pastimes", "guardFear", "[I", true)
  | _ => ("FearLocks$Pastimes", "words", "[J", true)
def tyX9 : Nat → FieldType := fun k => match k with
  | 0 => .array .int
  | _ => .array .long
theorem nmX9 : ∀ a, a < 2 → ∀ b, b < 2 → a ≠ b → (TX9 a).2.1 ≠ (TX9 b).2.1 := by decide +kernel
theorem tyX9_ok : ∀ k, k < 2 → parseFieldDescriptor (TX9 k).2.2.1 = some (tyX9 k) := by decide +kernel
abbrev cX9_init : ByteArray := prog_11_method_1_code
def yX9_init : MethodName := ⟨RX9, "<init>", "()V"⟩
abbrev cX9_waysToStand : ByteArray := prog_11_method_2_code
def yX9_waysToStand : MethodName := ⟨RX9, "waysToStand", "(LFearLocks$Tape;LFearLocks$City;I)I"⟩
abbrev cX9_waysOn : ByteArray := prog_11_method_3_code
def yX9_waysOn : MethodName := ⟨RX9, "waysOn", "([IIIII)I"⟩
abbrev cX9_canStandTogether : ByteArray := prog_11_method_4_code
def yX9_canStandTogether : MethodName := ⟨RX9, "canStandTogether", "([III)Z"⟩
abbrev cX9_wordsWeighing : ByteArray := prog_11_method_5_code
def yX9_wordsWeighing : MethodName := ⟨RX9, "wordsWeighing", "(III)J"⟩
abbrev cX9_wordsWithOneMore : ByteArray := prog_11_method_6_code
def yX9_wordsWithOneMore : MethodName := ⟨RX9, "wordsWithOneMore", "(II)J"⟩
abbrev cX9_leastDreadBehindRooms : ByteArray := prog_11_method_7_code
def yX9_leastDreadBehindRooms : MethodName := ⟨RX9, "leastDreadBehindRooms", "(LFearLocks$Tape;II)I"⟩
abbrev cX9_roomsOfCommonest : ByteArray := prog_11_method_8_code
def yX9_roomsOfCommonest : MethodName := ⟨RX9, "roomsOfCommonest", "(LFearLocks$Tape;I)I"⟩
def RX10 : String := "FearLocks$Tape"
def TX10 : u_T := fun k => match k with
  | 0 => ("FearLocks$Tape", "bytes", "[I", true)
  | 1 => ("FearLocks$Tape", "size", "I", false)
  | 2 => ("FearLocks$Tape", "end", "I", false)
  | 3 => ("FearLocks$Tape", "at", "I", false)
  | _ => ("FearLocks$Tape", "fault", "I", false)
def tyX10 : Nat → FieldType := fun k => match k with
  | 0 => .array .int
  | 1 => .int
  | 2 => .int
  | 3 => .int
  | _ => .int
theorem nmX10 : ∀ a, a < 5 → ∀ b, b < 5 → a ≠ b → (TX10 a).2.1 ≠ (TX10 b).2.1 := by decide +kernel
theorem tyX10_ok : ∀ k, k < 5 → parseFieldDescriptor (TX10 k).2.2.1 = some (tyX10 k) := by decide +kernel
abbrev cX10_init : ByteArray := prog_12_method_1_code
def yX10_init : MethodName := ⟨RX10, "<init>", "()V"⟩
abbrev cX10_append : ByteArray := prog_12_method_2_code
def yX10_append : MethodName := ⟨RX10, "append", "(I)V"⟩
abbrev cX10_holds : ByteArray := prog_12_method_3_code
def yX10_holds : MethodName := ⟨RX10, "holds", "(III)Z"⟩
abbrev cX10_take : ByteArray := prog_12_method_4_code
def yX10_take : MethodName := ⟨RX10, "take", "(I)V"⟩
abbrev cX10_byteAt : ByteArray := prog_12_method_5_code
def yX10_byteAt : MethodName := ⟨RX10, "byteAt", "(I)I"⟩
abbrev cX10_now : ByteArray := prog_12_method_6_code
def yX10_now : MethodName := ⟨RX10, "now", "()I"⟩
abbrev cX10_fail : ByteArray := prog_12_method_7_code
def yX10_fail : MethodName := ⟨RX10, "fail", "(II)Z"⟩
abbrev cX10_cannotStand : ByteArray := prog_12_method_8_code
def yX10_cannotStand : MethodName := ⟨RX10, "cannotStand", "()Z"⟩
abbrev cX10_expect : ByteArray := prog_12_method_9_code
def yX10_expect : MethodName := ⟨RX10, "expect", "(I)Z"⟩
abbrev cX10_readNumber : ByteArray := prog_12_method_10_code
def yX10_readNumber : MethodName := ⟨RX10, "readNumber", "(I)I"⟩
abbrev cX10_isDigit : ByteArray := prog_12_method_11_code
def yX10_isDigit : MethodName := ⟨RX10, "isDigit", "(I)Z"⟩
abbrev cX10_isFear : ByteArray := prog_12_method_12_code
def yX10_isFear : MethodName := ⟨RX10, "isFear", "(I)Z"⟩
def RX11 : String := "FearLocks"
def TX11 : u_T := fun k => match k with
  | 0 => ("FearLocks", "tape", "LFearLocks$Tape;", true)
  | 1 => ("FearLocks", "city", "LFearLocks$City;", true)
  | 2 => ("FearLocks", "draft", "LFearLocks$City;", true)
  | 3 => ("FearLocks", "kept", "LFearLocks$City;", true)
  | 4 => ("FearLocks", "everKept", "Z", false)
  | 5 => ("FearLocks", "inForce", "LFearLocks$Law;", false)
  | 6 => ("FearLocks", "spare", "LFearLocks$Law;", false)
  | 7 => ("FearLocks", "nightfall", "LFearLocks$Nightfall;", true)
  | 8 => ("FearLocks", "keys", "LFearLocks$Keys;", true)
  | 9 => ("FearLocks", "company", "LFearLocks$Company;", true)
  | _ => ("FearLocks", "pastimes", "LFearLocks$Pastimes;", true)
def tyX11 : Nat → FieldType := fun k => match k with
  | 0 => .object "FearLocks$Tape"
  | 1 => .object "FearLocks$City"
  | 2 => .object "FearLocks$City"
  | 3 => .object "FearLocks$City"
  | 4 => .boolean
  | 5 => .object "FearLocks$Law"
  | 6 => .object "FearLocks$Law"
  | 7 => .object "FearLocks$Nightfall"
  | 8 => .object "FearLocks$Keys"
  | 9 => .object "FearLocks$Company"
  | _ => .object "FearLocks$Pastimes"
theorem nmX11 : ∀ a, a < 11 → ∀ b, b < 11 → a ≠ b → (TX11 a).2.1 ≠ (TX11 b).2.1 := by decide +kernel
theorem tyX11_ok : ∀ k, k < 11 → parseFieldDescriptor (TX11 k).2.2.1 = some (tyX11 k) := by decide +kernel
abbrev cX11_init : ByteArray := prog_1_method_1_code
def yX11_init : MethodName := ⟨RX11, "<init>", "()V"⟩
abbrev cX11_feed : ByteArray := prog_1_method_2_code
def yX11_feed : MethodName := ⟨RX11, "feed", "(IIIII)I"⟩
abbrev cX11_law : ByteArray := prog_1_method_3_code
def yX11_law : MethodName := ⟨RX11, "law", "(I)I"⟩
abbrev cX11_dreads : ByteArray := prog_1_method_4_code
def yX11_dreads : MethodName := ⟨RX11, "dreads", "(II)I"⟩
abbrev cX11_orders : ByteArray := prog_1_method_5_code
def yX11_orders : MethodName := ⟨RX11, "orders", "(I)I"⟩
abbrev cX11_nights : ByteArray := prog_1_method_6_code
def yX11_nights : MethodName := ⟨RX11, "nights", "(I)I"⟩
abbrev cX11_tried : ByteArray := prog_1_method_7_code
def yX11_tried : MethodName := ⟨RX11, "tried", "(II)I"⟩
abbrev cX11_canBeTried : ByteArray := prog_1_method_8_code
def yX11_canBeTried : MethodName := ⟨RX11, "canBeTried", "(I)Z"⟩
abbrev cX11_personIs : ByteArray := prog_1_method_9_code
def yX11_personIs : MethodName := ⟨RX11, "personIs", "(II)I"⟩
abbrev cX11_doorIs : ByteArray := prog_1_method_10_code
def yX11_doorIs : MethodName := ⟨RX11, "doorIs", "(II)I"⟩
abbrev cX11_taught : ByteArray := prog_1_method_11_code
def yX11_taught : MethodName := ⟨RX11, "taught", "(II)I"⟩
abbrev cX11_crew : ByteArray := prog_1_method_12_code
def yX11_crew : MethodName := ⟨RX11, "crew", "(I)I"⟩
abbrev cX11_lodgings : ByteArray := prog_1_method_13_code
def yX11_lodgings : MethodName := ⟨RX11, "lodgings", "()I"⟩
abbrev cX11_couples : ByteArray := prog_1_method_14_code
def yX11_couples : MethodName := ⟨RX11, "couples", "(I)I"⟩
abbrev cX11_fashion : ByteArray := prog_1_method_15_code
def yX11_fashion : MethodName := ⟨RX11, "fashion", "(III)I"⟩
abbrev cX11_fears : ByteArray := prog_1_method_16_code
def yX11_fears : MethodName := ⟨RX11, "fears", "(I)I"⟩
abbrev cX11_unlike : ByteArray := prog_1_method_17_code
def yX11_unlike : MethodName := ⟨RX11, "unlike", "(II)I"⟩
abbrev cX11_mostLike : ByteArray := prog_1_method_18_code
def yX11_mostLike : MethodName := ⟨RX11, "mostLike", "(I)I"⟩
abbrev cX11_circles : ByteArray := prog_1_method_19_code
def yX11_circles : MethodName := ⟨RX11, "circles", "(II)I"⟩
abbrev cX11_keystones : ByteArray := prog_1_method_20_code
def yX11_keystones : MethodName := ⟨RX11, "keystones", "()I"⟩
abbrev cX11_steps : ByteArray := prog_1_method_21_code
def yX11_steps : MethodName := ⟨RX11, "steps", "(II)I"⟩
abbrev cX11_guess : ByteArray := prog_1_method_22_code
def yX11_guess : MethodName := ⟨RX11, "guess", "(II)I"⟩
abbrev cX11_sentNext : ByteArray := prog_1_method_23_code
def yX11_sentNext : MethodName := ⟨RX11, "sentNext", "(II)I"⟩
abbrev cX11_guards : ByteArray := prog_1_method_24_code
def yX11_guards : MethodName := ⟨RX11, "guards", "(I)I"⟩
abbrev cX11_word : ByteArray := prog_1_method_25_code
def yX11_word : MethodName := ⟨RX11, "word", "(III)J"⟩
abbrev cX11_rooms : ByteArray := prog_1_method_26_code
def yX11_rooms : MethodName := ⟨RX11, "rooms", "(II)I"⟩
abbrev cX11_seed : ByteArray := prog_1_method_27_code
def yX11_seed : MethodName := ⟨RX11, "seed", "(I)Z"⟩
abbrev cX11_keep : ByteArray := prog_1_method_28_code
def yX11_keep : MethodName := ⟨RX11, "keep", "()I"⟩
abbrev cX11_undo : ByteArray := prog_1_method_29_code
def yX11_undo : MethodName := ⟨RX11, "undo", "()Z"⟩
abbrev cX11_check : ByteArray := prog_1_method_30_code
def yX11_check : MethodName := ⟨RX11, "check", "(I)I"⟩
abbrev cX11_count : ByteArray := prog_1_method_31_code
def yX11_count : MethodName := ⟨RX11, "count", "(I)I"⟩
abbrev cX11_bounded : ByteArray := prog_1_method_32_code
def yX11_bounded : MethodName := ⟨RX11, "bounded", "(III)I"⟩
abbrev cX11_has : ByteArray := prog_1_method_33_code
def yX11_has : MethodName := ⟨RX11, "has", "(II)Z"⟩
def RX12 : String := "FearLocksModel"
def TX12 : u_T := fun k => match k with
  | 0 => ("FearLocksModel", "now", "[I", true)
  | 1 => ("FearLocksModel", "aside", "[I", true)
  | 2 => ("FearLocksModel", "kept", "[I", true)
  | 3 => ("FearLocksModel", "knownOf", "[I", true)
  | 4 => ("FearLocksModel", "wasKnown", "[I", true)
  | 5 => ("FearLocksModel", "fearAt", "[I", true)
  | 6 => ("FearLocksModel", "strengthAt", "[I", true)
  | 7 => ("FearLocksModel", "wasFear", "[I", true)
  | 8 => ("FearLocksModel", "wasStrength", "[I", true)
  | 9 => ("FearLocksModel", "toldPeople", "I", false)
  | 10 => ("FearLocksModel", "toldDoors", "I", false)
  | 11 => ("FearLocksModel", "wasDoors", "I", false)
  | 12 => ("FearLocksModel", "tape", "[B", true)
  | 13 => ("FearLocksModel", "taped", "I", false)
  | 14 => ("FearLocksModel", "place0", "I", false)
  | 15 => ("FearLocksModel", "length0", "I", false)
  | 16 => ("FearLocksModel", "fault", "I", false)
  | 17 => ("FearLocksModel", "number0", "I", false)
  | 18 => ("FearLocksModel", "open", "I", false)
  | 19 => ("FearLocksModel", "codeMany", "I", false)
  | 20 => ("FearLocksModel", "waiting", "I", false)
  | 21 => ("FearLocksModel", "saidMany", "I", false)
  | 22 => ("FearLocksModel", "clauses", "I", false)
  | 23 => ("FearLocksModel", "said", "[I", true)
  | 24 => ("FearLocksModel", "waitsAt", "[I", true)
  | 25 => ("FearLocksModel", "saidLetter", "[I", true)
  | 26 => ("FearLocksModel", "saidFrom", "[I", true)
  | 27 => ("FearLocksModel", "saidHalf", "[I", true)
  | 28 => ("FearLocksModel", "saidTo", "[I", true)
  | 29 => ("FearLocksModel", "codes", "[I", true)
  | 30 => ("FearLocksModel", "clauseOf", "[I", true)
  | 31 => ("FearLocksModel", "codeFrom", "[I", true)
  | 32 => ("FearLocksModel", "codeHalf", "[I", true)
  | 33 => ("FearLocksModel", "codeTo", "[I", true)
  | 34 => ("FearLocksModel", "stack", "[I", true)
  | 35 => ("FearLocksModel", "facts", "[I", true)
  | 36 => ("FearLocksModel", "lines", "I", false)
  | 37 => ("FearLocksModel", "meantSet", "I", false)
  | 38 => ("FearLocksModel", "openedNow", "I", false)
  | 39 => ("FearLocksModel", "vainNow", "I", false)
  | 40 => ("FearLocksModel", "fearThen", "[I", true)
  | 41 => ("FearLocksModel", "moreBy", "[I", true)
  | 42 => ("FearLocksModel", "canBe", "[Z", true)
  | 43 => ("FearLocksModel", "mostOf", "[I", true)
  | 44 => ("FearLocksModel", "whoOf", "[I", true)
  | 45 => ("FearLocksModel", "lowNow", "I", false)
  | 46 => ("FearLocksModel", "highNow", "I", false)
  | 47 => ("FearLocksModel", "orderNow", "[I", true)
  | 48 => ("FearLocksModel", "wordsOf", "[J", true)
  | 49 => ("FearLocksModel", "wordsThen", "[J", true)
  | 50 => ("FearLocksModel", "leastBy", "[I", true)
  | _ => ("FearLocksModel", "isKept", "Z", false)
def tyX12 : Nat → FieldType := fun k => match k with
  | 0 => .array .int
  | 1 => .array .int
  | 2 => .array .int
  | 3 => .array .int
  | 4 => .array .int
  | 5 => .array .int
  | 6 => .array .int
  | 7 => .array .int
  | 8 => .array .int
  | 9 => .int
  | 10 => .int
  | 11 => .int
  | 12 => .array .byte
  | 13 => .int
  | 14 => .int
  | 15 => .int
  | 16 => .int
  | 17 => .int
  | 18 => .int
  | 19 => .int
  | 20 => .int
  | 21 => .int
  | 22 => .int
  | 23 => .array .int
  | 24 => .array .int
  | 25 => .array .int
  | 26 => .array .int
  | 27 => .array .int
  | 28 => .array .int
  | 29 => .array .int
  | 30 => .array .int
  | 31 => .array .int
  | 32 => .array .int
  | 33 => .array .int
  | 34 => .array .int
  | 35 => .array .int
  | 36 => .int
  | 37 => .int
  | 38 => .int
  | 39 => .int
  | 40 => .array .int
  | 41 => .array .int
  | 42 => .array .boolean
  | 43 => .array .int
  | 44 => .array .int
  | 45 => .int
  | 46 => .int
  | 47 => .array .int
  | 48 => .array .long
  | 49 => .array .long
  | 50 => .array .int
  | _ => .boolean
theorem nmX12 : ∀ a, a < 52 → ∀ b, b < 52 → a ≠ b → (TX12 a).2.1 ≠ (TX12 b).2.1 := by decide +kernel
theorem tyX12_ok : ∀ k, k < 52 → parseFieldDescriptor (TX12 k).2.2.1 = some (tyX12 k) := by decide +kernel
abbrev cX12_init : ByteArray := prog_14_method_1_code
def yX12_init : MethodName := ⟨RX12, "<init>", "()V"⟩
abbrev cX12_in : ByteArray := prog_14_method_2_code
def yX12_in : MethodName := ⟨RX12, "in", "(III)Z"⟩
abbrev cX12_min : ByteArray := prog_14_method_3_code
def yX12_min : MethodName := ⟨RX12, "min", "(II)I"⟩
abbrev cX12_max : ByteArray := prog_14_method_4_code
def yX12_max : MethodName := ⟨RX12, "max", "(II)I"⟩
abbrev cX12_size : ByteArray := prog_14_method_5_code
def yX12_size : MethodName := ⟨RX12, "size", "(I)I"⟩
abbrev cX12_limit : ByteArray := prog_14_method_6_code
def yX12_limit : MethodName := ⟨RX12, "limit", "(I)I"⟩
abbrev cX12_has : ByteArray := prog_14_method_7_code
def yX12_has : MethodName := ⟨RX12, "has", "(II)Z"⟩
abbrev cX12_bits : ByteArray := prog_14_method_8_code
def yX12_bits : MethodName := ⟨RX12, "bits", "(I)I"⟩
abbrev cX12_copies : ByteArray := prog_14_method_9_code
def yX12_copies : MethodName := ⟨RX12, "copies", "([I[I)V"⟩
abbrev cX12_isTold : ByteArray := prog_14_method_10_code
def yX12_isTold : MethodName := ⟨RX12, "isTold", "(I)Z"⟩
abbrev cX12_isDoor : ByteArray := prog_14_method_11_code
def yX12_isDoor : MethodName := ⟨RX12, "isDoor", "(I)Z"⟩
abbrev cX12_dread : ByteArray := prog_14_method_12_code
def yX12_dread : MethodName := ⟨RX12, "dread", "(II)I"⟩
abbrev cX12_greatest : ByteArray := prog_14_method_13_code
def yX12_greatest : MethodName := ⟨RX12, "greatest", "(I)I"⟩
abbrev cX12_fearOf : ByteArray := prog_14_method_14_code
def yX12_fearOf : MethodName := ⟨RX12, "fearOf", "(I)I"⟩
abbrev cX12_unlocks : ByteArray := prog_14_method_15_code
def yX12_unlocks : MethodName := ⟨RX12, "unlocks", "(II)Z"⟩
abbrev cX12_doorsOf : ByteArray := prog_14_method_16_code
def yX12_doorsOf : MethodName := ⟨RX12, "doorsOf", "(I)I"⟩
abbrev cX12_whoUnlocks : ByteArray := prog_14_method_17_code
def yX12_whoUnlocks : MethodName := ⟨RX12, "whoUnlocks", "(I)I"⟩
abbrev cX12_types : ByteArray := prog_14_method_18_code
def yX12_types : MethodName := ⟨RX12, "types", "(I)V"⟩
abbrev cX12_feed : ByteArray := prog_14_method_19_code
def yX12_feed : MethodName := ⟨RX12, "feed", "(IIIII)I"⟩
abbrev cX12_octet : ByteArray := prog_14_method_20_code
def yX12_octet : MethodName := ⟨RX12, "octet", "(I)I"⟩
abbrev cX12_here : ByteArray := prog_14_method_21_code
def yX12_here : MethodName := ⟨RX12, "here", "()I"⟩
abbrev cX12_isDigit : ByteArray := prog_14_method_22_code
def yX12_isDigit : MethodName := ⟨RX12, "isDigit", "()Z"⟩
abbrev cX12_wrongAt : ByteArray := prog_14_method_23_code
def yX12_wrongAt : MethodName := ⟨RX12, "wrongAt", "(II)Z"⟩
abbrev cX12_takes : ByteArray := prog_14_method_24_code
def yX12_takes : MethodName := ⟨RX12, "takes", "(I)Z"⟩
abbrev cX12_readsNumber : ByteArray := prog_14_method_25_code
def yX12_readsNumber : MethodName := ⟨RX12, "readsNumber", "()Z"⟩
abbrev cX12_notes : ByteArray := prog_14_method_26_code
def yX12_notes : MethodName := ⟨RX12, "notes", "(II)V"⟩
abbrev cX12_opens : ByteArray := prog_14_method_27_code
def yX12_opens : MethodName := ⟨RX12, "opens", "(I)Z"⟩
abbrev cX12_waitTop : ByteArray := prog_14_method_28_code
def yX12_waitTop : MethodName := ⟨RX12, "waitTop", "()I"⟩
abbrev cX12_factOf : ByteArray := prog_14_method_29_code
def yX12_factOf : MethodName := ⟨RX12, "factOf", "(I)I"⟩
abbrev cX12_sumSign : ByteArray := prog_14_method_30_code
def yX12_sumSign : MethodName := ⟨RX12, "sumSign", "(I)I"⟩
abbrev cX12_closesSums : ByteArray := prog_14_method_31_code
def yX12_closesSums : MethodName := ⟨RX12, "closesSums", "(Z)V"⟩
abbrev cX12_readsFactor : ByteArray := prog_14_method_32_code
def yX12_readsFactor : MethodName := ⟨RX12, "readsFactor", "()Z"⟩
abbrev cX12_hasOpenSum : ByteArray := prog_14_method_33_code
def yX12_hasOpenSum : MethodName := ⟨RX12, "hasOpenSum", "(I)Z"⟩
abbrev cX12_readsSum : ByteArray := prog_14_method_34_code
def yX12_readsSum : MethodName := ⟨RX12, "readsSum", "()Z"⟩
abbrev cX12_endsPiece : ByteArray := prog_14_method_35_code
def yX12_endsPiece : MethodName := ⟨RX12, "endsPiece", "()V"⟩
abbrev cX12_lands : ByteArray := prog_14_method_36_code
def yX12_lands : MethodName := ⟨RX12, "lands", "(Z)V"⟩
abbrev cX12_jumps : ByteArray := prog_14_method_37_code
def yX12_jumps : MethodName := ⟨RX12, "jumps", "(I)V"⟩
abbrev cX12_readsCompared : ByteArray := prog_14_method_38_code
def yX12_readsCompared : MethodName := ⟨RX12, "readsCompared", "()Z"⟩
abbrev cX12_readsCondition : ByteArray := prog_14_method_39_code
def yX12_readsCondition : MethodName := ⟨RX12, "readsCondition", "()Z"⟩
abbrev cX12_readsRule : ByteArray := prog_14_method_40_code
def yX12_readsRule : MethodName := ⟨RX12, "readsRule", "()Z"⟩
abbrev cX12_beginsText : ByteArray := prog_14_method_41_code
def yX12_beginsText : MethodName := ⟨RX12, "beginsText", "(I)V"⟩
abbrev cX12_law : ByteArray := prog_14_method_42_code
def yX12_law : MethodName := ⟨RX12, "law", "(I)I"⟩
abbrev cX12_reckon : ByteArray := prog_14_method_43_code
def yX12_reckon : MethodName := ⟨RX12, "reckon", "(III)I"⟩
abbrev cX12_reckonsTo : ByteArray := prog_14_method_44_code
def yX12_reckonsTo : MethodName := ⟨RX12, "reckonsTo", "(II)I"⟩
abbrev cX12_byLaw : ByteArray := prog_14_method_45_code
def yX12_byLaw : MethodName := ⟨RX12, "byLaw", "(II)I"⟩
abbrev cX12_holdsAny : ByteArray := prog_14_method_46_code
def yX12_holdsAny : MethodName := ⟨RX12, "holdsAny", "(I)Z"⟩
abbrev cX12_isLetter : ByteArray := prog_14_method_47_code
def yX12_isLetter : MethodName := ⟨RX12, "isLetter", "()Z"⟩
abbrev cX12_readsAmount : ByteArray := prog_14_method_48_code
def yX12_readsAmount : MethodName := ⟨RX12, "readsAmount", "()Z"⟩
abbrev cX12_readsMeant : ByteArray := prog_14_method_49_code
def yX12_readsMeant : MethodName := ⟨RX12, "readsMeant", "()Z"⟩
abbrev cX12_readsDread : ByteArray := prog_14_method_50_code
def yX12_readsDread : MethodName := ⟨RX12, "readsDread", "(I)Z"⟩
abbrev cX12_dreads : ByteArray := prog_14_method_51_code
def yX12_dreads : MethodName := ⟨RX12, "dreads", "(II)I"⟩
abbrev cX12_readsOne : ByteArray := prog_14_method_52_code
def yX12_readsOne : MethodName := ⟨RX12, "readsOne", "()Z"⟩
abbrev cX12_readsTwo : ByteArray := prog_14_method_53_code
def yX12_readsTwo : MethodName := ⟨RX12, "readsTwo", "()Z"⟩
abbrev cX12_readsDoor : ByteArray := prog_14_method_54_code
def yX12_readsDoor : MethodName := ⟨RX12, "readsDoor", "()Z"⟩
abbrev cX12_readsOrder : ByteArray := prog_14_method_55_code
def yX12_readsOrder : MethodName := ⟨RX12, "readsOrder", "()Z"⟩
abbrev cX12_laysAside : ByteArray := prog_14_method_56_code
def yX12_laysAside : MethodName := ⟨RX12, "laysAside", "()V"⟩
abbrev cX12_putsBack : ByteArray := prog_14_method_57_code
def yX12_putsBack : MethodName := ⟨RX12, "putsBack", "()V"⟩
abbrev cX12_orders : ByteArray := prog_14_method_58_code
def yX12_orders : MethodName := ⟨RX12, "orders", "(I)I"⟩
abbrev cX12_feels : ByteArray := prog_14_method_59_code
def yX12_feels : MethodName := ⟨RX12, "feels", "(II)V"⟩
abbrev cX12_feelsDoor : ByteArray := prog_14_method_60_code
def yX12_feelsDoor : MethodName := ⟨RX12, "feelsDoor", "(III)V"⟩
abbrev cX12_likedMost : ByteArray := prog_14_method_61_code
def yX12_likedMost : MethodName := ⟨RX12, "likedMost", "(II)I"⟩
abbrev cX12_triesDoor : ByteArray := prog_14_method_62_code
def yX12_triesDoor : MethodName := ⟨RX12, "triesDoor", "(III)V"⟩
abbrev cX12_goesOut : ByteArray := prog_14_method_63_code
def yX12_goesOut : MethodName := ⟨RX12, "goesOut", "(I)V"⟩
abbrev cX12_caughtBy : ByteArray := prog_14_method_64_code
def yX12_caughtBy : MethodName := ⟨RX12, "caughtBy", "(II)I"⟩
abbrev cX12_catches : ByteArray := prog_14_method_65_code
def yX12_catches : MethodName := ⟨RX12, "catches", "()V"⟩
abbrev cX12_nightGoes : ByteArray := prog_14_method_66_code
def yX12_nightGoes : MethodName := ⟨RX12, "nightGoes", "()V"⟩
abbrev cX12_nightsGo : ByteArray := prog_14_method_67_code
def yX12_nightsGo : MethodName := ⟨RX12, "nightsGo", "(I)V"⟩
abbrev cX12_nights : ByteArray := prog_14_method_68_code
def yX12_nights : MethodName := ⟨RX12, "nights", "(I)I"⟩
abbrev cX12_orNone : ByteArray := prog_14_method_69_code
def yX12_orNone : MethodName := ⟨RX12, "orNone", "(I)I"⟩
abbrev cX12_tried : ByteArray := prog_14_method_70_code
def yX12_tried : MethodName := ⟨RX12, "tried", "(II)I"⟩
abbrev cX12_dreadSum : ByteArray := prog_14_method_71_code
def yX12_dreadSum : MethodName := ⟨RX12, "dreadSum", "(I)I"⟩
abbrev cX12_personIs : ByteArray := prog_14_method_72_code
def yX12_personIs : MethodName := ⟨RX12, "personIs", "(II)I"⟩
abbrev cX12_doorIs : ByteArray := prog_14_method_73_code
def yX12_doorIs : MethodName := ⟨RX12, "doorIs", "(II)I"⟩
abbrev cX12_taught : ByteArray := prog_14_method_74_code
def yX12_taught : MethodName := ⟨RX12, "taught", "(II)I"⟩
abbrev cX12_laysWho : ByteArray := prog_14_method_75_code
def yX12_laysWho : MethodName := ⟨RX12, "laysWho", "()V"⟩
abbrev cX12_isCrew : ByteArray := prog_14_method_76_code
def yX12_isCrew : MethodName := ⟨RX12, "isCrew", "(I)Z"⟩
abbrev cX12_crew : ByteArray := prog_14_method_77_code
def yX12_crew : MethodName := ⟨RX12, "crew", "(I)I"⟩
abbrev cX12_lodgings : ByteArray := prog_14_method_78_code
def yX12_lodgings : MethodName := ⟨RX12, "lodgings", "()I"⟩
abbrev cX12_areCouple : ByteArray := prog_14_method_79_code
def yX12_areCouple : MethodName := ⟨RX12, "areCouple", "(III)Z"⟩
abbrev cX12_couples : ByteArray := prog_14_method_80_code
def yX12_couples : MethodName := ⟨RX12, "couples", "(I)I"⟩
abbrev cX12_lowest : ByteArray := prog_14_method_81_code
def yX12_lowest : MethodName := ⟨RX12, "lowest", "(I)I"⟩
abbrev cX12_firstWith : ByteArray := prog_14_method_82_code
def yX12_firstWith : MethodName := ⟨RX12, "firstWith", "(I)I"⟩
abbrev cX12_fashion : ByteArray := prog_14_method_83_code
def yX12_fashion : MethodName := ⟨RX12, "fashion", "(III)I"⟩
abbrev cX12_fears : ByteArray := prog_14_method_84_code
def yX12_fears : MethodName := ⟨RX12, "fears", "(I)I"⟩
abbrev cX12_unlikeBy : ByteArray := prog_14_method_85_code
def yX12_unlikeBy : MethodName := ⟨RX12, "unlikeBy", "(II)I"⟩
abbrev cX12_unlike : ByteArray := prog_14_method_86_code
def yX12_unlike : MethodName := ⟨RX12, "unlike", "(II)I"⟩
abbrev cX12_mostLike : ByteArray := prog_14_method_87_code
def yX12_mostLike : MethodName := ⟨RX12, "mostLike", "(I)I"⟩
abbrev cX12_circleOf : ByteArray := prog_14_method_88_code
def yX12_circleOf : MethodName := ⟨RX12, "circleOf", "(II)I"⟩
abbrev cX12_circles : ByteArray := prog_14_method_89_code
def yX12_circles : MethodName := ⟨RX12, "circles", "(II)I"⟩
abbrev cX12_groupOf : ByteArray := prog_14_method_90_code
def yX12_groupOf : MethodName := ⟨RX12, "groupOf", "(II)I"⟩
abbrev cX12_isKeystone : ByteArray := prog_14_method_91_code
def yX12_isKeystone : MethodName := ⟨RX12, "isKeystone", "(I)Z"⟩
abbrev cX12_keystones : ByteArray := prog_14_method_92_code
def yX12_keystones : MethodName := ⟨RX12, "keystones", "()I"⟩
abbrev cX12_steps : ByteArray := prog_14_method_93_code
def yX12_steps : MethodName := ⟨RX12, "steps", "(II)I"⟩
abbrev cX12_bounds : ByteArray := prog_14_method_94_code
def yX12_bounds : MethodName := ⟨RX12, "bounds", "(II)Z"⟩
abbrev cX12_guess : ByteArray := prog_14_method_95_code
def yX12_guess : MethodName := ⟨RX12, "guess", "(II)I"⟩
abbrev cX12_leaves : ByteArray := prog_14_method_96_code
def yX12_leaves : MethodName := ⟨RX12, "leaves", "(II)I"⟩
abbrev cX12_sentNext : ByteArray := prog_14_method_97_code
def yX12_sentNext : MethodName := ⟨RX12, "sentNext", "(II)I"⟩
abbrev cX12_changesOrder : ByteArray := prog_14_method_98_code
def yX12_changesOrder : MethodName := ⟨RX12, "changesOrder", "(II)V"⟩
abbrev cX12_nextOrder : ByteArray := prog_14_method_99_code
def yX12_nextOrder : MethodName := ⟨RX12, "nextOrder", "(I)Z"⟩
abbrev cX12_canStand : ByteArray := prog_14_method_100_code
def yX12_canStand : MethodName := ⟨RX12, "canStand", "(I)Z"⟩
abbrev cX12_guards : ByteArray := prog_14_method_101_code
def yX12_guards : MethodName := ⟨RX12, "guards", "(I)I"⟩
abbrev cX12_word : ByteArray := prog_14_method_102_code
def yX12_word : MethodName := ⟨RX12, "word", "(III)J"⟩
abbrev cX12_rooms : ByteArray := prog_14_method_103_code
def yX12_rooms : MethodName := ⟨RX12, "rooms", "(II)I"⟩
abbrev cX12_sleeps : ByteArray := prog_14_method_104_code
def yX12_sleeps : MethodName := ⟨RX12, "sleeps", "(III)I"⟩
abbrev cX12_seed : ByteArray := prog_14_method_105_code
def yX12_seed : MethodName := ⟨RX12, "seed", "(I)Z"⟩
abbrev cX12_keep : ByteArray := prog_14_method_106_code
def yX12_keep : MethodName := ⟨RX12, "keep", "()I"⟩
abbrev cX12_undo : ByteArray := prog_14_method_107_code
def yX12_undo : MethodName := ⟨RX12, "undo", "()Z"⟩
abbrev cX12_check : ByteArray := prog_14_method_108_code
def yX12_check : MethodName := ⟨RX12, "check", "(I)I"⟩
abbrev cX12_twos : ByteArray := prog_14_method_109_code
def yX12_twos : MethodName := ⟨RX12, "twos", "()I"⟩
abbrev cX12_openedOfAll : ByteArray := prog_14_method_110_code
def yX12_openedOfAll : MethodName := ⟨RX12, "openedOfAll", "()I"⟩
abbrev cX12_count : ByteArray := prog_14_method_111_code
def yX12_count : MethodName := ⟨RX12, "count", "(I)I"⟩
def RJ11 : String := "java/lang/Character"
abbrev cJ11_isValidCodePoint_9a6ad : ByteArray := prog_15_method_11_code
def yJ11_isValidCodePoint_9a6ad : MethodName := ⟨RJ11, "isValidCodePoint", "(I)Z"⟩
abbrev cJ11_highSurrogate_5068e : ByteArray := prog_15_method_28_code
def yJ11_highSurrogate_5068e : MethodName := ⟨RJ11, "highSurrogate", "(I)C"⟩
abbrev cJ11_lowSurrogate_5068e : ByteArray := prog_15_method_29_code
def yJ11_lowSurrogate_5068e : MethodName := ⟨RJ11, "lowSurrogate", "(I)C"⟩
def RJ6 : String := "java/lang/Integer"
abbrev cJ6_bitCount_0f7a4 : ByteArray := prog_16_method_49_code
def yJ6_bitCount_0f7a4 : MethodName := ⟨RJ6, "bitCount", "(I)I"⟩
def RJ9 : String := "java/lang/Math"
abbrev cJ9_abs_0f7a4 : ByteArray := prog_17_method_59_code
def yJ9_abs_0f7a4 : MethodName := ⟨RJ9, "abs", "(I)I"⟩
abbrev cJ9_max_7cf53 : ByteArray := prog_17_method_65_code
def yJ9_max_7cf53 : MethodName := ⟨RJ9, "max", "(II)I"⟩
abbrev cJ9_min_7cf53 : ByteArray := prog_17_method_69_code
def yJ9_min_7cf53 : MethodName := ⟨RJ9, "min", "(II)I"⟩
def RJ0 : String := "java/lang/String"
abbrev cJ0_length_8abf5 : ByteArray := prog_18_method_54_code
def yJ0_length_8abf5 : MethodName := ⟨RJ0, "length", "()I"⟩
abbrev cJ0_indexOf_0f7a4 : ByteArray := prog_18_method_79_code
def yJ0_indexOf_0f7a4 : MethodName := ⟨RJ0, "indexOf", "(I)I"⟩
abbrev cJ0_indexOf_7cf53 : ByteArray := prog_18_method_80_code
def yJ0_indexOf_7cf53 : MethodName := ⟨RJ0, "indexOf", "(II)I"⟩
abbrev cJ0_coder_7d493 : ByteArray := prog_18_method_152_code
def yJ0_coder_7d493 : MethodName := ⟨RJ0, "coder", "()B"⟩
abbrev cJ0_isLatin1_aae02 : ByteArray := prog_18_method_154_code
def yJ0_isLatin1_aae02 : MethodName := ⟨RJ0, "isLatin1", "()Z"⟩
abbrev cJ0_checkBoundsBeginEnd_23922 : ByteArray := prog_18_method_158_code
def yJ0_checkBoundsBeginEnd_23922 : MethodName := ⟨RJ0, "checkBoundsBeginEnd", "(III)V"⟩
def RJ1 : String := "java/lang/StringLatin1"
abbrev cJ1_canEncode_9a6ad : ByteArray := prog_19_method_4_code
def yJ1_canEncode_9a6ad : MethodName := ⟨RJ1, "canEncode", "(I)Z"⟩
abbrev cJ1_indexOf_4cfef : ByteArray := prog_19_method_22_code
def yJ1_indexOf_4cfef : MethodName := ⟨RJ1, "indexOf", "([BIII)I"⟩
abbrev cJ1_indexOfChar_4cfef : ByteArray := prog_19_method_23_code
def yJ1_indexOfChar_4cfef : MethodName := ⟨RJ1, "indexOfChar", "([BIII)I"⟩
def RJ2 : String := "java/lang/StringUTF16"
abbrev cJ2_getChar_3b067 : ByteArray := prog_20_method_5_code
def yJ2_getChar_3b067 : MethodName := ⟨RJ2, "getChar", "([BI)C"⟩
abbrev cJ2_length_9d52b : ByteArray := prog_20_method_6_code
def yJ2_length_9d52b : MethodName := ⟨RJ2, "length", "([B)I"⟩
abbrev cJ2_indexOf_4cfef : ByteArray := prog_20_method_40_code
def yJ2_indexOf_4cfef : MethodName := ⟨RJ2, "indexOf", "([BIII)I"⟩
abbrev cJ2_indexOfChar_4cfef : ByteArray := prog_20_method_47_code
def yJ2_indexOfChar_4cfef : MethodName := ⟨RJ2, "indexOfChar", "([BIII)I"⟩
abbrev cJ2_indexOfCharUnsafe_4cfef : ByteArray := prog_20_method_48_code
def yJ2_indexOfCharUnsafe_4cfef : MethodName := ⟨RJ2, "indexOfCharUnsafe", "([BIII)I"⟩
abbrev cJ2_indexOfSupplementary_4cfef : ByteArray := prog_20_method_49_code
def yJ2_indexOfSupplementary_4cfef : MethodName := ⟨RJ2, "indexOfSupplementary", "([BIII)I"⟩
abbrev cJ2_checkBoundsBeginEnd_d044e : ByteArray := prog_20_method_93_code
def yJ2_checkBoundsBeginEnd_d044e : MethodName := ⟨RJ2, "checkBoundsBeginEnd", "(II[B)V"⟩
def RJ3 : String := "jdk/internal/util/Preconditions"
abbrev cJ3_checkFromToIndex_8c36e : ByteArray := prog_21_method_12_code
def yJ3_checkFromToIndex_8c36e : MethodName := ⟨RJ3, "checkFromToIndex", "(IIILjava/util/function/BiFunction;)I"⟩
def RL : String := "FearLocksLaw"
abbrev cL_law : ByteArray := code
def yL_law : MethodName := ⟨RL, "law", "([I)Z"⟩
abbrev vwCl : List vw_C := [(RX0, TX0, 9), (RX1, TX1, 2), (RX2, TX2, 3), (RX3, TX3, 1), (RX4, TX4, 10), (RX5, TX5, 2), (RX7, TX7, 3), (RX8, TX8, 2), (RX9, TX9, 2), (RX10, TX10, 5), (RX11, TX11, 11), (RX12, TX12, 52)]
def jJ0_checkBoundsBeginEnd_23922 : MethodName × ByteArray × Nat × Option FieldType := (yJ0_checkBoundsBeginEnd_23922, cJ0_checkBoundsBeginEnd_23922, 3, none)
def jJ0_coder_7d493 : MethodName × ByteArray × Nat × Option FieldType := (yJ0_coder_7d493, cJ0_coder_7d493, 1, (some .byte))
def jJ0_indexOf_0f7a4 : MethodName × ByteArray × Nat × Option FieldType := (yJ0_indexOf_0f7a4, cJ0_indexOf_0f7a4, 2, (some .int))
def jJ0_indexOf_7cf53 : MethodName × ByteArray × Nat × Option FieldType := (yJ0_indexOf_7cf53, cJ0_indexOf_7cf53, 3, (some .int))
def jJ0_isLatin1_aae02 : MethodName × ByteArray × Nat × Option FieldType := (yJ0_isLatin1_aae02, cJ0_isLatin1_aae02, 1, (some .boolean))
def jJ0_length_8abf5 : MethodName × ByteArray × Nat × Option FieldType := (yJ0_length_8abf5, cJ0_length_8abf5, 1, (some .int))
def jJ11_highSurrogate_5068e : MethodName × ByteArray × Nat × Option FieldType := (yJ11_highSurrogate_5068e, cJ11_highSurrogate_5068e, 1, (some .char))
def jJ11_isValidCodePoint_9a6ad : MethodName × ByteArray × Nat × Option FieldType := (yJ11_isValidCodePoint_9a6ad, cJ11_isValidCodePoint_9a6ad, 2, (some .boolean))
def jJ11_lowSurrogate_5068e : MethodName × ByteArray × Nat × Option FieldType := (yJ11_lowSurrogate_5068e, cJ11_lowSurrogate_5068e, 1, (some .char))
def jJ1_canEncode_9a6ad : MethodName × ByteArray × Nat × Option FieldType := (yJ1_canEncode_9a6ad, cJ1_canEncode_9a6ad, 1, (some .boolean))
def jJ1_indexOfChar_4cfef : MethodName × ByteArray × Nat × Option FieldType := (yJ1_indexOfChar_4cfef, cJ1_indexOfChar_4cfef, 6, (some .int))
def jJ1_indexOf_4cfef : MethodName × ByteArray × Nat × Option FieldType := (yJ1_indexOf_4cfef, cJ1_indexOf_4cfef, 4, (some .int))
def jJ2_checkBoundsBeginEnd_d044e : MethodName × ByteArray × Nat × Option FieldType := (yJ2_checkBoundsBeginEnd_d044e, cJ2_checkBoundsBeginEnd_d044e, 3, none)
def jJ2_getChar_3b067 : MethodName × ByteArray × Nat × Option FieldType := (yJ2_getChar_3b067, cJ2_getChar_3b067, 2, (some .char))
def jJ2_indexOfCharUnsafe_4cfef : MethodName × ByteArray × Nat × Option FieldType := (yJ2_indexOfCharUnsafe_4cfef, cJ2_indexOfCharUnsafe_4cfef, 5, (some .int))
def jJ2_indexOfChar_4cfef : MethodName × ByteArray × Nat × Option FieldType := (yJ2_indexOfChar_4cfef, cJ2_indexOfChar_4cfef, 4, (some .int))
def jJ2_indexOfSupplementary_4cfef : MethodName × ByteArray × Nat × Option FieldType := (yJ2_indexOfSupplementary_4cfef, cJ2_indexOfSupplementary_4cfef, 7, (some .int))
def jJ2_indexOf_4cfef : MethodName × ByteArray × Nat × Option FieldType := (yJ2_indexOf_4cfef, cJ2_indexOf_4cfef, 4, (some .int))
def jJ2_length_9d52b : MethodName × ByteArray × Nat × Option FieldType := (yJ2_length_9d52b, cJ2_length_9d52b, 1, (some .int))
def jJ3_checkFromToIndex_8c36e : MethodName × ByteArray × Nat × Option FieldType := (yJ3_checkFromToIndex_8c36e, cJ3_checkFromToIndex_8c36e, 4, (some .int))
def jJ6_bitCount_0f7a4 : MethodName × ByteArray × Nat × Option FieldType := (yJ6_bitCount_0f7a4, cJ6_bitCount_0f7a4, 1, (some .int))
def jJ9_abs_0f7a4 : MethodName × ByteArray × Nat × Option FieldType := (yJ9_abs_0f7a4, cJ9_abs_0f7a4, 1, (some .int))
def jJ9_max_7cf53 : MethodName × ByteArray × Nat × Option FieldType := (yJ9_max_7cf53, cJ9_max_7cf53, 2, (some .int))
def jJ9_min_7cf53 : MethodName × ByteArray × Nat × Option FieldType := (yJ9_min_7cf53, cJ9_min_7cf53, 2, (some .int))
def jX0_acquaint : MethodName × ByteArray × Nat × Option FieldType := (yX0_acquaint, cX0_acquaint, 4, none)
def jX0_acquaintances : MethodName × ByteArray × Nat × Option FieldType := (yX0_acquaintances, cX0_acquaintances, 3, (some .int))
def jX0_allsFears : MethodName × ByteArray × Nat × Option FieldType := (yX0_allsFears, cX0_allsFears, 3, (some .int))
def jX0_copyDreads : MethodName × ByteArray × Nat × Option FieldType := (yX0_copyDreads, cX0_copyDreads, 4, none)
def jX0_copyFrom : MethodName × ByteArray × Nat × Option FieldType := (yX0_copyFrom, cX0_copyFrom, 3, none)
def jX0_doorsOpenTo : MethodName × ByteArray × Nat × Option FieldType := (yX0_doorsOpenTo, cX0_doorsOpenTo, 4, (some .int))
def jX0_draw : MethodName × ByteArray × Nat × Option FieldType := (yX0_draw, cX0_draw, 1, (some .int))
def jX0_dreadInAll : MethodName × ByteArray × Nat × Option FieldType := (yX0_dreadInAll, cX0_dreadInAll, 4, (some .int))
def jX0_dreadOf : MethodName × ByteArray × Nat × Option FieldType := (yX0_dreadOf, cX0_dreadOf, 3, (some .int))
def jX0_dropDoor : MethodName × ByteArray × Nat × Option FieldType := (yX0_dropDoor, cX0_dropDoor, 2, none)
def jX0_fearOf : MethodName × ByteArray × Nat × Option FieldType := (yX0_fearOf, cX0_fearOf, 5, (some .int))
def jX0_fearsFrom : MethodName × ByteArray × Nat × Option FieldType := (yX0_fearsFrom, cX0_fearsFrom, 5, (some .int))
def jX0_goBackTo : MethodName × ByteArray × Nat × Option FieldType := (yX0_goBackTo, cX0_goBackTo, 3, none)
def jX0_greatestDread : MethodName × ByteArray × Nat × Option FieldType := (yX0_greatestDread, cX0_greatestDread, 4, (some .int))
def jX0_havingFear : MethodName × ByteArray × Nat × Option FieldType := (yX0_havingFear, cX0_havingFear, 4, (some .int))
def jX0_init : MethodName × ByteArray × Nat × Option FieldType := (yX0_init, cX0_init, 1, none)
def jX0_isDoor : MethodName × ByteArray × Nat × Option FieldType := (yX0_isDoor, cX0_isDoor, 2, (some .boolean))
def jX0_isPerson : MethodName × ByteArray × Nat × Option FieldType := (yX0_isPerson, cX0_isPerson, 2, (some .boolean))
def jX0_knownTo : MethodName × ByteArray × Nat × Option FieldType := (yX0_knownTo, cX0_knownTo, 2, (some .int))
def jX0_nobodysFears : MethodName × ByteArray × Nat × Option FieldType := (yX0_nobodysFears, cX0_nobodysFears, 3, (some .int))
def jX0_openedInAll : MethodName × ByteArray × Nat × Option FieldType := (yX0_openedInAll, cX0_openedInAll, 3, (some .int))
def jX0_openedOf : MethodName × ByteArray × Nat × Option FieldType := (yX0_openedOf, cX0_openedOf, 2, (some .int))
def jX0_openersOf : MethodName × ByteArray × Nat × Option FieldType := (yX0_openersOf, cX0_openersOf, 4, (some .int))
def jX0_opens : MethodName × ByteArray × Nat × Option FieldType := (yX0_opens, cX0_opens, 3, (some .boolean))
def jX0_setDread : MethodName × ByteArray × Nat × Option FieldType := (yX0_setDread, cX0_setDread, 4, none)
def jX0_tellDoor : MethodName × ByteArray × Nat × Option FieldType := (yX0_tellDoor, cX0_tellDoor, 4, none)
def jX10_append : MethodName × ByteArray × Nat × Option FieldType := (yX10_append, cX10_append, 3, none)
def jX10_byteAt : MethodName × ByteArray × Nat × Option FieldType := (yX10_byteAt, cX10_byteAt, 2, (some .int))
def jX10_cannotStand : MethodName × ByteArray × Nat × Option FieldType := (yX10_cannotStand, cX10_cannotStand, 1, (some .boolean))
def jX10_expect : MethodName × ByteArray × Nat × Option FieldType := (yX10_expect, cX10_expect, 2, (some .boolean))
def jX10_fail : MethodName × ByteArray × Nat × Option FieldType := (yX10_fail, cX10_fail, 3, (some .boolean))
def jX10_holds : MethodName × ByteArray × Nat × Option FieldType := (yX10_holds, cX10_holds, 4, (some .boolean))
def jX10_init : MethodName × ByteArray × Nat × Option FieldType := (yX10_init, cX10_init, 1, none)
def jX10_isDigit : MethodName × ByteArray × Nat × Option FieldType := (yX10_isDigit, cX10_isDigit, 1, (some .boolean))
def jX10_isFear : MethodName × ByteArray × Nat × Option FieldType := (yX10_isFear, cX10_isFear, 1, (some .boolean))
def jX10_now : MethodName × ByteArray × Nat × Option FieldType := (yX10_now, cX10_now, 1, (some .int))
def jX10_readNumber : MethodName × ByteArray × Nat × Option FieldType := (yX10_readNumber, cX10_readNumber, 4, (some .int))
def jX10_take : MethodName × ByteArray × Nat × Option FieldType := (yX10_take, cX10_take, 2, none)
def jX11_bounded : MethodName × ByteArray × Nat × Option FieldType := (yX11_bounded, cX11_bounded, 3, (some .int))
def jX11_canBeTried : MethodName × ByteArray × Nat × Option FieldType := (yX11_canBeTried, cX11_canBeTried, 2, (some .boolean))
def jX11_check : MethodName × ByteArray × Nat × Option FieldType := (yX11_check, cX11_check, 4, (some .int))
def jX11_circles : MethodName × ByteArray × Nat × Option FieldType := (yX11_circles, cX11_circles, 3, (some .int))
def jX11_count : MethodName × ByteArray × Nat × Option FieldType := (yX11_count, cX11_count, 2, (some .int))
def jX11_couples : MethodName × ByteArray × Nat × Option FieldType := (yX11_couples, cX11_couples, 2, (some .int))
def jX11_crew : MethodName × ByteArray × Nat × Option FieldType := (yX11_crew, cX11_crew, 3, (some .int))
def jX11_doorIs : MethodName × ByteArray × Nat × Option FieldType := (yX11_doorIs, cX11_doorIs, 3, (some .int))
def jX11_dreads : MethodName × ByteArray × Nat × Option FieldType := (yX11_dreads, cX11_dreads, 4, (some .int))
def jX11_fashion : MethodName × ByteArray × Nat × Option FieldType := (yX11_fashion, cX11_fashion, 7, (some .int))
def jX11_fears : MethodName × ByteArray × Nat × Option FieldType := (yX11_fears, cX11_fears, 2, (some .int))
def jX11_feed : MethodName × ByteArray × Nat × Option FieldType := (yX11_feed, cX11_feed, 6, (some .int))
def jX11_guards : MethodName × ByteArray × Nat × Option FieldType := (yX11_guards, cX11_guards, 2, (some .int))
def jX11_guess : MethodName × ByteArray × Nat × Option FieldType := (yX11_guess, cX11_guess, 8, (some .int))
def jX11_has : MethodName × ByteArray × Nat × Option FieldType := (yX11_has, cX11_has, 2, (some .boolean))
def jX11_init : MethodName × ByteArray × Nat × Option FieldType := (yX11_init, cX11_init, 1, none)
def jX11_keep : MethodName × ByteArray × Nat × Option FieldType := (yX11_keep, cX11_keep, 1, (some .int))
def jX11_keystones : MethodName × ByteArray × Nat × Option FieldType := (yX11_keystones, cX11_keystones, 1, (some .int))
def jX11_law : MethodName × ByteArray × Nat × Option FieldType := (yX11_law, cX11_law, 4, (some .int))
def jX11_lodgings : MethodName × ByteArray × Nat × Option FieldType := (yX11_lodgings, cX11_lodgings, 1, (some .int))
def jX11_mostLike : MethodName × ByteArray × Nat × Option FieldType := (yX11_mostLike, cX11_mostLike, 2, (some .int))
def jX11_nights : MethodName × ByteArray × Nat × Option FieldType := (yX11_nights, cX11_nights, 2, (some .int))
def jX11_orders : MethodName × ByteArray × Nat × Option FieldType := (yX11_orders, cX11_orders, 3, (some .int))
def jX11_personIs : MethodName × ByteArray × Nat × Option FieldType := (yX11_personIs, cX11_personIs, 3, (some .int))
def jX11_rooms : MethodName × ByteArray × Nat × Option FieldType := (yX11_rooms, cX11_rooms, 4, (some .int))
def jX11_seed : MethodName × ByteArray × Nat × Option FieldType := (yX11_seed, cX11_seed, 2, (some .boolean))
def jX11_sentNext : MethodName × ByteArray × Nat × Option FieldType := (yX11_sentNext, cX11_sentNext, 4, (some .int))
def jX11_steps : MethodName × ByteArray × Nat × Option FieldType := (yX11_steps, cX11_steps, 3, (some .int))
def jX11_taught : MethodName × ByteArray × Nat × Option FieldType := (yX11_taught, cX11_taught, 3, (some .int))
def jX11_tried : MethodName × ByteArray × Nat × Option FieldType := (yX11_tried, cX11_tried, 3, (some .int))
def jX11_undo : MethodName × ByteArray × Nat × Option FieldType := (yX11_undo, cX11_undo, 1, (some .boolean))
def jX11_unlike : MethodName × ByteArray × Nat × Option FieldType := (yX11_unlike, cX11_unlike, 3, (some .int))
def jX11_word : MethodName × ByteArray × Nat × Option FieldType := (yX11_word, cX11_word, 4, (some .long))
def jX12_areCouple : MethodName × ByteArray × Nat × Option FieldType := (yX12_areCouple, cX12_areCouple, 5, (some .boolean))
def jX12_beginsText : MethodName × ByteArray × Nat × Option FieldType := (yX12_beginsText, cX12_beginsText, 2, none)
def jX12_bits : MethodName × ByteArray × Nat × Option FieldType := (yX12_bits, cX12_bits, 3, (some .int))
def jX12_bounds : MethodName × ByteArray × Nat × Option FieldType := (yX12_bounds, cX12_bounds, 6, (some .boolean))
def jX12_byLaw : MethodName × ByteArray × Nat × Option FieldType := (yX12_byLaw, cX12_byLaw, 5, (some .int))
def jX12_canStand : MethodName × ByteArray × Nat × Option FieldType := (yX12_canStand, cX12_canStand, 4, (some .boolean))
def jX12_catches : MethodName × ByteArray × Nat × Option FieldType := (yX12_catches, cX12_catches, 5, none)
def jX12_caughtBy : MethodName × ByteArray × Nat × Option FieldType := (yX12_caughtBy, cX12_caughtBy, 3, (some .int))
def jX12_changesOrder : MethodName × ByteArray × Nat × Option FieldType := (yX12_changesOrder, cX12_changesOrder, 4, none)
def jX12_check : MethodName × ByteArray × Nat × Option FieldType := (yX12_check, cX12_check, 3, (some .int))
def jX12_circleOf : MethodName × ByteArray × Nat × Option FieldType := (yX12_circleOf, cX12_circleOf, 7, (some .int))
def jX12_circles : MethodName × ByteArray × Nat × Option FieldType := (yX12_circles, cX12_circles, 6, (some .int))
def jX12_closesSums : MethodName × ByteArray × Nat × Option FieldType := (yX12_closesSums, cX12_closesSums, 2, none)
def jX12_copies : MethodName × ByteArray × Nat × Option FieldType := (yX12_copies, cX12_copies, 3, none)
def jX12_count : MethodName × ByteArray × Nat × Option FieldType := (yX12_count, cX12_count, 2, (some .int))
def jX12_couples : MethodName × ByteArray × Nat × Option FieldType := (yX12_couples, cX12_couples, 5, (some .int))
def jX12_crew : MethodName × ByteArray × Nat × Option FieldType := (yX12_crew, cX12_crew, 4, (some .int))
def jX12_doorIs : MethodName × ByteArray × Nat × Option FieldType := (yX12_doorIs, cX12_doorIs, 3, (some .int))
def jX12_doorsOf : MethodName × ByteArray × Nat × Option FieldType := (yX12_doorsOf, cX12_doorsOf, 4, (some .int))
def jX12_dread : MethodName × ByteArray × Nat × Option FieldType := (yX12_dread, cX12_dread, 3, (some .int))
def jX12_dreadSum : MethodName × ByteArray × Nat × Option FieldType := (yX12_dreadSum, cX12_dreadSum, 4, (some .int))
def jX12_dreads : MethodName × ByteArray × Nat × Option FieldType := (yX12_dreads, cX12_dreads, 4, (some .int))
def jX12_endsPiece : MethodName × ByteArray × Nat × Option FieldType := (yX12_endsPiece, cX12_endsPiece, 1, none)
def jX12_factOf : MethodName × ByteArray × Nat × Option FieldType := (yX12_factOf, cX12_factOf, 1, (some .int))
def jX12_fashion : MethodName × ByteArray × Nat × Option FieldType := (yX12_fashion, cX12_fashion, 8, (some .int))
def jX12_fearOf : MethodName × ByteArray × Nat × Option FieldType := (yX12_fearOf, cX12_fearOf, 6, (some .int))
def jX12_fears : MethodName × ByteArray × Nat × Option FieldType := (yX12_fears, cX12_fears, 5, (some .int))
def jX12_feed : MethodName × ByteArray × Nat × Option FieldType := (yX12_feed, cX12_feed, 6, (some .int))
def jX12_feels : MethodName × ByteArray × Nat × Option FieldType := (yX12_feels, cX12_feels, 4, none)
def jX12_feelsDoor : MethodName × ByteArray × Nat × Option FieldType := (yX12_feelsDoor, cX12_feelsDoor, 4, none)
def jX12_firstWith : MethodName × ByteArray × Nat × Option FieldType := (yX12_firstWith, cX12_firstWith, 4, (some .int))
def jX12_goesOut : MethodName × ByteArray × Nat × Option FieldType := (yX12_goesOut, cX12_goesOut, 4, none)
def jX12_greatest : MethodName × ByteArray × Nat × Option FieldType := (yX12_greatest, cX12_greatest, 4, (some .int))
def jX12_groupOf : MethodName × ByteArray × Nat × Option FieldType := (yX12_groupOf, cX12_groupOf, 6, (some .int))
def jX12_guards : MethodName × ByteArray × Nat × Option FieldType := (yX12_guards, cX12_guards, 5, (some .int))
def jX12_guess : MethodName × ByteArray × Nat × Option FieldType := (yX12_guess, cX12_guess, 5, (some .int))
def jX12_has : MethodName × ByteArray × Nat × Option FieldType := (yX12_has, cX12_has, 2, (some .boolean))
def jX12_hasOpenSum : MethodName × ByteArray × Nat × Option FieldType := (yX12_hasOpenSum, cX12_hasOpenSum, 3, (some .boolean))
def jX12_here : MethodName × ByteArray × Nat × Option FieldType := (yX12_here, cX12_here, 1, (some .int))
def jX12_holdsAny : MethodName × ByteArray × Nat × Option FieldType := (yX12_holdsAny, cX12_holdsAny, 3, (some .boolean))
def jX12_in : MethodName × ByteArray × Nat × Option FieldType := (yX12_in, cX12_in, 3, (some .boolean))
def jX12_init : MethodName × ByteArray × Nat × Option FieldType := (yX12_init, cX12_init, 1, none)
def jX12_isCrew : MethodName × ByteArray × Nat × Option FieldType := (yX12_isCrew, cX12_isCrew, 3, (some .boolean))
def jX12_isDigit : MethodName × ByteArray × Nat × Option FieldType := (yX12_isDigit, cX12_isDigit, 1, (some .boolean))
def jX12_isDoor : MethodName × ByteArray × Nat × Option FieldType := (yX12_isDoor, cX12_isDoor, 2, (some .boolean))
def jX12_isKeystone : MethodName × ByteArray × Nat × Option FieldType := (yX12_isKeystone, cX12_isKeystone, 3, (some .boolean))
def jX12_isLetter : MethodName × ByteArray × Nat × Option FieldType := (yX12_isLetter, cX12_isLetter, 1, (some .boolean))
def jX12_isTold : MethodName × ByteArray × Nat × Option FieldType := (yX12_isTold, cX12_isTold, 2, (some .boolean))
def jX12_jumps : MethodName × ByteArray × Nat × Option FieldType := (yX12_jumps, cX12_jumps, 2, none)
def jX12_keep : MethodName × ByteArray × Nat × Option FieldType := (yX12_keep, cX12_keep, 1, (some .int))
def jX12_keystones : MethodName × ByteArray × Nat × Option FieldType := (yX12_keystones, cX12_keystones, 3, (some .int))
def jX12_lands : MethodName × ByteArray × Nat × Option FieldType := (yX12_lands, cX12_lands, 3, none)
def jX12_law : MethodName × ByteArray × Nat × Option FieldType := (yX12_law, cX12_law, 4, (some .int))
def jX12_laysAside : MethodName × ByteArray × Nat × Option FieldType := (yX12_laysAside, cX12_laysAside, 2, none)
def jX12_laysWho : MethodName × ByteArray × Nat × Option FieldType := (yX12_laysWho, cX12_laysWho, 2, none)
def jX12_leaves : MethodName × ByteArray × Nat × Option FieldType := (yX12_leaves, cX12_leaves, 4, (some .int))
def jX12_likedMost : MethodName × ByteArray × Nat × Option FieldType := (yX12_likedMost, cX12_likedMost, 7, (some .int))
def jX12_limit : MethodName × ByteArray × Nat × Option FieldType := (yX12_limit, cX12_limit, 1, (some .int))
def jX12_lodgings : MethodName × ByteArray × Nat × Option FieldType := (yX12_lodgings, cX12_lodgings, 5, (some .int))
def jX12_lowest : MethodName × ByteArray × Nat × Option FieldType := (yX12_lowest, cX12_lowest, 2, (some .int))
def jX12_max : MethodName × ByteArray × Nat × Option FieldType := (yX12_max, cX12_max, 2, (some .int))
def jX12_min : MethodName × ByteArray × Nat × Option FieldType := (yX12_min, cX12_min, 2, (some .int))
def jX12_mostLike : MethodName × ByteArray × Nat × Option FieldType := (yX12_mostLike, cX12_mostLike, 4, (some .int))
def jX12_nextOrder : MethodName × ByteArray × Nat × Option FieldType := (yX12_nextOrder, cX12_nextOrder, 6, (some .boolean))
def jX12_nightGoes : MethodName × ByteArray × Nat × Option FieldType := (yX12_nightGoes, cX12_nightGoes, 2, none)
def jX12_nights : MethodName × ByteArray × Nat × Option FieldType := (yX12_nights, cX12_nights, 2, (some .int))
def jX12_nightsGo : MethodName × ByteArray × Nat × Option FieldType := (yX12_nightsGo, cX12_nightsGo, 3, none)
def jX12_notes : MethodName × ByteArray × Nat × Option FieldType := (yX12_notes, cX12_notes, 3, none)
def jX12_octet : MethodName × ByteArray × Nat × Option FieldType := (yX12_octet, cX12_octet, 2, (some .int))
def jX12_openedOfAll : MethodName × ByteArray × Nat × Option FieldType := (yX12_openedOfAll, cX12_openedOfAll, 3, (some .int))
def jX12_opens : MethodName × ByteArray × Nat × Option FieldType := (yX12_opens, cX12_opens, 2, (some .boolean))
def jX12_orNone : MethodName × ByteArray × Nat × Option FieldType := (yX12_orNone, cX12_orNone, 1, (some .int))
def jX12_orders : MethodName × ByteArray × Nat × Option FieldType := (yX12_orders, cX12_orders, 3, (some .int))
def jX12_personIs : MethodName × ByteArray × Nat × Option FieldType := (yX12_personIs, cX12_personIs, 3, (some .int))
def jX12_putsBack : MethodName × ByteArray × Nat × Option FieldType := (yX12_putsBack, cX12_putsBack, 2, none)
def jX12_readsAmount : MethodName × ByteArray × Nat × Option FieldType := (yX12_readsAmount, cX12_readsAmount, 2, (some .boolean))
def jX12_readsCompared : MethodName × ByteArray × Nat × Option FieldType := (yX12_readsCompared, cX12_readsCompared, 2, (some .boolean))
def jX12_readsCondition : MethodName × ByteArray × Nat × Option FieldType := (yX12_readsCondition, cX12_readsCondition, 1, (some .boolean))
def jX12_readsDoor : MethodName × ByteArray × Nat × Option FieldType := (yX12_readsDoor, cX12_readsDoor, 4, (some .boolean))
def jX12_readsDread : MethodName × ByteArray × Nat × Option FieldType := (yX12_readsDread, cX12_readsDread, 5, (some .boolean))
def jX12_readsFactor : MethodName × ByteArray × Nat × Option FieldType := (yX12_readsFactor, cX12_readsFactor, 2, (some .boolean))
def jX12_readsMeant : MethodName × ByteArray × Nat × Option FieldType := (yX12_readsMeant, cX12_readsMeant, 1, (some .boolean))
def jX12_readsNumber : MethodName × ByteArray × Nat × Option FieldType := (yX12_readsNumber, cX12_readsNumber, 2, (some .boolean))
def jX12_readsOne : MethodName × ByteArray × Nat × Option FieldType := (yX12_readsOne, cX12_readsOne, 2, (some .boolean))
def jX12_readsOrder : MethodName × ByteArray × Nat × Option FieldType := (yX12_readsOrder, cX12_readsOrder, 1, (some .boolean))
def jX12_readsRule : MethodName × ByteArray × Nat × Option FieldType := (yX12_readsRule, cX12_readsRule, 2, (some .boolean))
def jX12_readsSum : MethodName × ByteArray × Nat × Option FieldType := (yX12_readsSum, cX12_readsSum, 3, (some .boolean))
def jX12_readsTwo : MethodName × ByteArray × Nat × Option FieldType := (yX12_readsTwo, cX12_readsTwo, 5, (some .boolean))
def jX12_reckon : MethodName × ByteArray × Nat × Option FieldType := (yX12_reckon, cX12_reckon, 3, (some .int))
def jX12_reckonsTo : MethodName × ByteArray × Nat × Option FieldType := (yX12_reckonsTo, cX12_reckonsTo, 8, (some .int))
def jX12_rooms : MethodName × ByteArray × Nat × Option FieldType := (yX12_rooms, cX12_rooms, 5, (some .int))
def jX12_seed : MethodName × ByteArray × Nat × Option FieldType := (yX12_seed, cX12_seed, 2, (some .boolean))
def jX12_sentNext : MethodName × ByteArray × Nat × Option FieldType := (yX12_sentNext, cX12_sentNext, 5, (some .int))
def jX12_size : MethodName × ByteArray × Nat × Option FieldType := (yX12_size, cX12_size, 1, (some .int))
def jX12_sleeps : MethodName × ByteArray × Nat × Option FieldType := (yX12_sleeps, cX12_sleeps, 7, (some .int))
def jX12_steps : MethodName × ByteArray × Nat × Option FieldType := (yX12_steps, cX12_steps, 7, (some .int))
def jX12_sumSign : MethodName × ByteArray × Nat × Option FieldType := (yX12_sumSign, cX12_sumSign, 1, (some .int))
def jX12_takes : MethodName × ByteArray × Nat × Option FieldType := (yX12_takes, cX12_takes, 2, (some .boolean))
def jX12_taught : MethodName × ByteArray × Nat × Option FieldType := (yX12_taught, cX12_taught, 7, (some .int))
def jX12_tried : MethodName × ByteArray × Nat × Option FieldType := (yX12_tried, cX12_tried, 4, (some .int))
def jX12_triesDoor : MethodName × ByteArray × Nat × Option FieldType := (yX12_triesDoor, cX12_triesDoor, 6, none)
def jX12_twos : MethodName × ByteArray × Nat × Option FieldType := (yX12_twos, cX12_twos, 3, (some .int))
def jX12_types : MethodName × ByteArray × Nat × Option FieldType := (yX12_types, cX12_types, 3, none)
def jX12_undo : MethodName × ByteArray × Nat × Option FieldType := (yX12_undo, cX12_undo, 1, (some .boolean))
def jX12_unlike : MethodName × ByteArray × Nat × Option FieldType := (yX12_unlike, cX12_unlike, 3, (some .int))
def jX12_unlikeBy : MethodName × ByteArray × Nat × Option FieldType := (yX12_unlikeBy, cX12_unlikeBy, 5, (some .int))
def jX12_unlocks : MethodName × ByteArray × Nat × Option FieldType := (yX12_unlocks, cX12_unlocks, 3, (some .boolean))
def jX12_waitTop : MethodName × ByteArray × Nat × Option FieldType := (yX12_waitTop, cX12_waitTop, 1, (some .int))
def jX12_whoUnlocks : MethodName × ByteArray × Nat × Option FieldType := (yX12_whoUnlocks, cX12_whoUnlocks, 4, (some .int))
def jX12_word : MethodName × ByteArray × Nat × Option FieldType := (yX12_word, cX12_word, 7, (some .long))
def jX12_wrongAt : MethodName × ByteArray × Nat × Option FieldType := (yX12_wrongAt, cX12_wrongAt, 3, (some .boolean))
def jX1_beside : MethodName × ByteArray × Nat × Option FieldType := (yX1_beside, cX1_beside, 4, (some .int))
def jX1_circleOf : MethodName × ByteArray × Nat × Option FieldType := (yX1_circleOf, cX1_circleOf, 3, (some .int))
def jX1_circlesOf : MethodName × ByteArray × Nat × Option FieldType := (yX1_circlesOf, cX1_circlesOf, 5, (some .int))
def jX1_difference : MethodName × ByteArray × Nat × Option FieldType := (yX1_difference, cX1_difference, 5, (some .int))
def jX1_grownFashion : MethodName × ByteArray × Nat × Option FieldType := (yX1_grownFashion, cX1_grownFashion, 5, (some .int))
def jX1_holdersTogether : MethodName × ByteArray × Nat × Option FieldType := (yX1_holdersTogether, cX1_holdersTogether, 6, (some .int))
def jX1_init : MethodName × ByteArray × Nat × Option FieldType := (yX1_init, cX1_init, 1, none)
def jX1_linkAlike : MethodName × ByteArray × Nat × Option FieldType := (yX1_linkAlike, cX1_linkAlike, 5, none)
def jX1_linkFellows : MethodName × ByteArray × Nat × Option FieldType := (yX1_linkFellows, cX1_linkFellows, 5, none)
def jX1_mostCouples : MethodName × ByteArray × Nat × Option FieldType := (yX1_mostCouples, cX1_mostCouples, 5, (some .int))
def jX1_mostWith : MethodName × ByteArray × Nat × Option FieldType := (yX1_mostWith, cX1_mostWith, 5, (some .int))
def jX1_nearestTo : MethodName × ByteArray × Nat × Option FieldType := (yX1_nearestTo, cX1_nearestTo, 5, (some .int))
def jX1_reached : MethodName × ByteArray × Nat × Option FieldType := (yX1_reached, cX1_reached, 5, (some .int))
def jX1_stepsBetween : MethodName × ByteArray × Nat × Option FieldType := (yX1_stepsBetween, cX1_stepsBetween, 5, (some .int))
def jX2_change : MethodName × ByteArray × Nat × Option FieldType := (yX2_change, cX2_change, 6, none)
def jX2_init : MethodName × ByteArray × Nat × Option FieldType := (yX2_init, cX2_init, 4, none)
def jX2_readFears : MethodName × ByteArray × Nat × Option FieldType := (yX2_readFears, cX2_readFears, 3, (some .int))
def jX2_readLine : MethodName × ByteArray × Nat × Option FieldType := (yX2_readLine, cX2_readLine, 4, (some .boolean))
def jX2_startsLine : MethodName × ByteArray × Nat × Option FieldType := (yX2_startsLine, cX2_startsLine, 2, (some .boolean))
def jX3_bestToSend : MethodName × ByteArray × Nat × Option FieldType := (yX3_bestToSend, cX3_bestToSend, 5, (some .int))
def jX3_fewestForAllDoors : MethodName × ByteArray × Nat × Option FieldType := (yX3_fewestForAllDoors, cX3_fewestForAllDoors, 6, (some .int))
def jX3_greatestStrength : MethodName × ByteArray × Nat × Option FieldType := (yX3_greatestStrength, cX3_greatestStrength, 8, (some .int))
def jX3_init : MethodName × ByteArray × Nat × Option FieldType := (yX3_init, cX3_init, 1, none)
def jX3_leastStrength : MethodName × ByteArray × Nat × Option FieldType := (yX3_leastStrength, cX3_leastStrength, 7, (some .int))
def jX3_leftAtWorst : MethodName × ByteArray × Nat × Option FieldType := (yX3_leftAtWorst, cX3_leftAtWorst, 4, (some .int))
def jX3_lessons : MethodName × ByteArray × Nat × Option FieldType := (yX3_lessons, cX3_lessons, 8, (some .int))
def jX3_mostLet : MethodName × ByteArray × Nat × Option FieldType := (yX3_mostLet, cX3_mostLet, 5, (some .int))
def jX3_openedBy : MethodName × ByteArray × Nat × Option FieldType := (yX3_openedBy, cX3_openedBy, 4, (some .int))
def jX3_possibleFears : MethodName × ByteArray × Nat × Option FieldType := (yX3_possibleFears, cX3_possibleFears, 5, (some .int))
def jX3_triesFit : MethodName × ByteArray × Nat × Option FieldType := (yX3_triesFit, cX3_triesFit, 4, (some .boolean))
def jX4_add : MethodName × ByteArray × Nat × Option FieldType := (yX4_add, cX4_add, 3, (some .int))
def jX4_anyHolds : MethodName × ByteArray × Nat × Option FieldType := (yX4_anyHolds, cX4_anyHolds, 3, (some .boolean))
def jX4_clear : MethodName × ByteArray × Nat × Option FieldType := (yX4_clear, cX4_clear, 1, none)
def jX4_endRule : MethodName × ByteArray × Nat × Option FieldType := (yX4_endRule, cX4_endRule, 1, none)
def jX4_init : MethodName × ByteArray × Nat × Option FieldType := (yX4_init, cX4_init, 1, none)
def jX4_joined : MethodName × ByteArray × Nat × Option FieldType := (yX4_joined, cX4_joined, 3, (some .int))
def jX4_leadHere : MethodName × ByteArray × Nat × Option FieldType := (yX4_leadHere, cX4_leadHere, 2, none)
def jX4_meanDoor : MethodName × ByteArray × Nat × Option FieldType := (yX4_meanDoor, cX4_meanDoor, 3, none)
def jX4_meanOther : MethodName × ByteArray × Nat × Option FieldType := (yX4_meanOther, cX4_meanOther, 4, none)
def jX4_meanPerson : MethodName × ByteArray × Nat × Option FieldType := (yX4_meanPerson, cX4_meanPerson, 4, none)
def jX4_meanTime : MethodName × ByteArray × Nat × Option FieldType := (yX4_meanTime, cX4_meanTime, 3, none)
def jX4_meaningOf : MethodName × ByteArray × Nat × Option FieldType := (yX4_meaningOf, cX4_meaningOf, 2, (some .int))
def jX4_pop : MethodName × ByteArray × Nat × Option FieldType := (yX4_pop, cX4_pop, 1, (some .int))
def jX4_push : MethodName × ByteArray × Nat × Option FieldType := (yX4_push, cX4_push, 2, none)
def jX4_reckon : MethodName × ByteArray × Nat × Option FieldType := (yX4_reckon, cX4_reckon, 6, (some .int))
def jX4_startCondition : MethodName × ByteArray × Nat × Option FieldType := (yX4_startCondition, cX4_startCondition, 1, none)
def jX4_startRule : MethodName × ByteArray × Nat × Option FieldType := (yX4_startRule, cX4_startRule, 2, none)
def jX4_worth : MethodName × ByteArray × Nat × Option FieldType := (yX4_worth, cX4_worth, 4, (some .int))
def jX5_init : MethodName × ByteArray × Nat × Option FieldType := (yX5_init, cX5_init, 3, none)
def jX5_joinsFactors : MethodName × ByteArray × Nat × Option FieldType := (yX5_joinsFactors, cX5_joinsFactors, 1, (some .boolean))
def jX5_open : MethodName × ByteArray × Nat × Option FieldType := (yX5_open, cX5_open, 2, (some .boolean))
def jX5_readAllOf : MethodName × ByteArray × Nat × Option FieldType := (yX5_readAllOf, cX5_readAllOf, 3, (some .boolean))
def jX5_readAnyOf : MethodName × ByteArray × Nat × Option FieldType := (yX5_readAnyOf, cX5_readAnyOf, 3, (some .boolean))
def jX5_readComparison : MethodName × ByteArray × Nat × Option FieldType := (yX5_readComparison, cX5_readComparison, 3, (some .boolean))
def jX5_readFactor : MethodName × ByteArray × Nat × Option FieldType := (yX5_readFactor, cX5_readFactor, 4, (some .boolean))
def jX5_readLine : MethodName × ByteArray × Nat × Option FieldType := (yX5_readLine, cX5_readLine, 2, (some .boolean))
def jX5_readNegation : MethodName × ByteArray × Nat × Option FieldType := (yX5_readNegation, cX5_readNegation, 2, (some .boolean))
def jX5_readProduct : MethodName × ByteArray × Nat × Option FieldType := (yX5_readProduct, cX5_readProduct, 3, (some .boolean))
def jX5_readSum : MethodName × ByteArray × Nat × Option FieldType := (yX5_readSum, cX5_readSum, 3, (some .boolean))
def jX5_readTest : MethodName × ByteArray × Nat × Option FieldType := (yX5_readTest, cX5_readTest, 3, (some .boolean))
def jX5_startsLine : MethodName × ByteArray × Nat × Option FieldType := (yX5_startsLine, cX5_startsLine, 2, (some .boolean))
def jX6_init : MethodName × ByteArray × Nat × Option FieldType := (yX6_init, cX6_init, 2, none)
def jX6_readLines : MethodName × ByteArray × Nat × Option FieldType := (yX6_readLines, cX6_readLines, 3, (some .int))
def jX7_catchDread : MethodName × ByteArray × Nat × Option FieldType := (yX7_catchDread, cX7_catchDread, 7, none)
def jX7_doorTried : MethodName × ByteArray × Nat × Option FieldType := (yX7_doorTried, cX7_doorTried, 7, (some .int))
def jX7_goOut : MethodName × ByteArray × Nat × Option FieldType := (yX7_goOut, cX7_goOut, 5, none)
def jX7_init : MethodName × ByteArray × Nat × Option FieldType := (yX7_init, cX7_init, 1, none)
def jX7_meanDoorFor : MethodName × ByteArray × Nat × Option FieldType := (yX7_meanDoorFor, cX7_meanDoorFor, 5, none)
def jX7_pass : MethodName × ByteArray × Nat × Option FieldType := (yX7_pass, cX7_pass, 6, none)
def jX7_spreadDread : MethodName × ByteArray × Nat × Option FieldType := (yX7_spreadDread, cX7_spreadDread, 5, none)
def jX7_tryDoor : MethodName × ByteArray × Nat × Option FieldType := (yX7_tryDoor, cX7_tryDoor, 8, none)
def jX8_init : MethodName × ByteArray × Nat × Option FieldType := (yX8_init, cX8_init, 3, none)
def jX8_readAcquaintance : MethodName × ByteArray × Nat × Option FieldType := (yX8_readAcquaintance, cX8_readAcquaintance, 5, (some .boolean))
def jX8_readDoor : MethodName × ByteArray × Nat × Option FieldType := (yX8_readDoor, cX8_readDoor, 3, (some .boolean))
def jX8_readLine : MethodName × ByteArray × Nat × Option FieldType := (yX8_readLine, cX8_readLine, 1, (some .boolean))
def jX8_readLock : MethodName × ByteArray × Nat × Option FieldType := (yX8_readLock, cX8_readLock, 4, (some .boolean))
def jX8_readPerson : MethodName × ByteArray × Nat × Option FieldType := (yX8_readPerson, cX8_readPerson, 3, (some .int))
def jX8_startsLine : MethodName × ByteArray × Nat × Option FieldType := (yX8_startsLine, cX8_startsLine, 2, (some .boolean))
def jX9_canStandTogether : MethodName × ByteArray × Nat × Option FieldType := (yX9_canStandTogether, cX9_canStandTogether, 3, (some .boolean))
def jX9_init : MethodName × ByteArray × Nat × Option FieldType := (yX9_init, cX9_init, 1, none)
def jX9_leastDreadBehindRooms : MethodName × ByteArray × Nat × Option FieldType := (yX9_leastDreadBehindRooms, cX9_leastDreadBehindRooms, 6, (some .int))
def jX9_roomsOfCommonest : MethodName × ByteArray × Nat × Option FieldType := (yX9_roomsOfCommonest, cX9_roomsOfCommonest, 6, (some .int))
def jX9_waysOn : MethodName × ByteArray × Nat × Option FieldType := (yX9_waysOn, cX9_waysOn, 7, (some .int))
def jX9_waysToStand : MethodName × ByteArray × Nat × Option FieldType := (yX9_waysToStand, cX9_waysToStand, 7, (some .int))
def jX9_wordsWeighing : MethodName × ByteArray × Nat × Option FieldType := (yX9_wordsWeighing, cX9_wordsWeighing, 6, (some .long))
def jX9_wordsWithOneMore : MethodName × ByteArray × Nat × Option FieldType := (yX9_wordsWithOneMore, cX9_wordsWithOneMore, 7, (some .long))
/-! ===== BEGIN new T[n][m]: the outer array a place, the inner ones among the pooled ===== -/
/-- f, but v at every address of l -/
def vr_up {α : Type} (f : Nat → α) (l : List Nat) (v : α) : Nat → α := fun a => if a ∈ l then v else f a
theorem vr_up_in {α : Type} {f : Nat → α} {l : List Nat} {v : α} {a : Nat} (h : a ∈ l) : vr_up f l v a = v := if_pos h
theorem vr_up_ne {α : Type} {f : Nat → α} {l : List Nat} {v : α} {a : Nat} (h : a ∉ l) : vr_up f l v a = f a := if_neg h
theorem vr_rows {L l : List Nat} {f : Nat → va_E} {e : va_E} (h : ∀ a, a ∈ l → a ∉ L) : va_pl L f ++ l.map (fun a => (a, e)) = va_pl (L ++ l) (vr_up f l e) := by
  unfold va_pl
  rw [List.map_append]
  congr 1
  · apply List.map_congr_left
    intro a ha
    rw [vr_up_ne (fun q => h a q ha)]
  · apply List.map_congr_left
    intro a ha
    rw [vr_up_in ha]
theorem vr_lay {X rows : va_W} {x : Nat × va_E} {pl : va_W} {D : va_G} {cl : List vw_C} {H : Heap} (hP : va_P D cl (((X ++ pl) ++ [x]) ++ rows) H) : va_P D cl ((X ++ [x]) ++ (pl ++ rows)) H := by
  rw [List.append_assoc (X ++ pl)] at hP
  have h := va_P.swap hP
  rw [← List.append_assoc X] at h
  have h2 := va_P.swap h
  rw [List.append_assoc (X ++ [x])] at h2
  exact h2
theorem vr_layD {X rows : va_W} {x : Nat × va_E} {pl : va_W} {A : Nat → Prop} (hD : va_D A (((X ++ pl) ++ [x]) ++ rows)) : va_D A ((X ++ [x]) ++ (pl ++ rows)) := by
  rw [List.append_assoc (X ++ pl)] at hD
  have h := va_D.swap hD
  rw [← List.append_assoc X] at h
  have h2 := va_D.swap h
  rw [List.append_assoc (X ++ [x])] at h2
  exact h2
theorem vr_outer (c : ClassId) (N h0 : Nat) : ∀ i : Nat, Jvm.Free.Multi.outerC c N h0 i = arrV c N (fun j => va_rf (if j < i then some (h0 + 1 + j) else none))
  | 0 => by
    show ({ cls := c, slots := Array.replicate N .null, vm := .none } : Cell) = _
    rw [arrV_new]
    refine congrArg (arrV c N) (funext fun j => ?_)
    simp [va_rf]
  | i + 1 => by
    show (Jvm.Free.Multi.outerC c N h0 i).setSlot i (.ref (h0 + 1 + i)) = _
    rw [vr_outer c N h0 i, arrV_store]
    refine congrArg (arrV c N) (funext fun j => ?_)
    by_cases e : j = i
    · subst e
      simp [updV, va_rf]
    · by_cases h : j < i
      · simp [updV, e, h, Nat.lt_succ_of_lt h]
      · simp [updV, e, h, show ¬ j < i + 1 by omega]
section VGM
variable {p : Program} {l : Launch} {e : Env} {R : Room} {s : State} {m : MethodId} {args : Array Value} {below : List Frame} {meth : Method} {c : Code} {H : Heap} {locs : List Loc} {cells slots : Nat} {Q : State → Prop}
variable {cc : ByteArray} {pc : Nat} {ls : Array Slot} {rest : List Value} {D : va_G} {cl : List vw_C} {A : Nat → Prop} {a : Nat} {tys : List (ClassId × FieldType)} {ws : va_W} {H0 : Heap}
theorem va_mna {X : va_W} {L : List Nat} {f : Nat → va_E} {cc : ByteArray} (hexec : p.tables.exec = Jvm.exec) (hb : c.code = cc) {own : String} {index : Nat} {ty : FieldType} {cy : ClassId} (hown : s.vm.findClass own = some m.cls) (hclink : (Cond.classLink own index ("[" ++ (FieldType.array ty).toString)).before args s = true) (hover : (Cond.arrayOver (.array ty)).before args s = true) (harr : (Cond.arrayClass ty).before args s = true) (hcy : s.vm.findClass (FieldType.array ty).toString = some cy)
    (hK : va_K D cl tys s) (hP : va_P D cl (X ++ va_pl L f) H) (hD : va_D A (X ++ va_pl L f)) (hS : va_S A H0 H locs) (hA : ∀ q, H0.size ≤ q → A q) {n k : Int32} {N' K' : Nat} {z : vp_A} (hn : ¬ n < 0) (hk : ¬ k < 0) (hN : n.toNatClampNeg = N') (hM : k.toNatClampNeg = K')
    (hb1 : N' * 4 ≤ 536870912) (hb2 : K' * componentBytes ty ≤ 536870912) (hb3 : K' ≤ 536870912) (hdf : fits ty (defaultValue ty) = true) (hdd : (defaultValue ty).isDefault = true) (hcells : cells + (1 + N') ≤ R.cells) (hslots : slots + (N' + N' * K') ≤ R.slots) (hz : ∀ c : ClassId, Jvm.Free.Multi.innerC c K' (defaultValue ty) = vp_cell c z) (hdg : decode cc pc = .ok (.multianewarray index 2, 4))
    (kk : ∀ (q : Nat) (r : Nat → Nat) (cA : ClassId) (H1 : Heap), (∀ i j : Nat, i < N' → j < N' → r i = r j → i = j) → (∀ i : Nat, i < N' → r i ∉ L) → va_K D cl (tys ++ [(cA, .array ty)]) s →
      va_P D cl ((X ++ [(q, .inl (cA, N', .inr (.inr (.inr (.inr (fun i => if i < N' then some (r i) else none))))))]) ++ va_pl (L ++ (List.range N').map r) (vr_up f ((List.range N').map r) (.inl (cy, z)))) H1 → va_D A ((X ++ [(q, .inl (cA, N', .inr (.inr (.inr (.inr (fun i => if i < N' then some (r i) else none))))))]) ++ va_pl (L ++ (List.range N').map r) (vr_up f ((List.range N').map r) (.inl (cy, z)))) → va_S A H0 H1 locs →
      W p l e R s m args below meth c H1 locs (cells + 1 + N') (slots + N' + N' * K') Q (F0 m (pc + 4) ls (.ref q :: rest))) : W p l e R s m args below meth c H locs cells slots Q (F0 m pc ls (.int k :: .int n :: rest)) := by
  subst hN
  subst hM
  intro T hT Xs
  obtain ⟨vm₁, cA, comp, -, fA, fC, hO, -, X', step⟩ := Xs.multianewarray2F hexec hown hclink hover harr (g := F0 m pc ls (.int k :: .int n :: rest)) rfl (by rw [hb]; exact hdg) rfl hn hk hb1 hb2 hb3 hdf hdd hcells hslots
  have ec : some cy = some comp := hcy.symm.trans fC
  cases ec
  generalize hF : Jvm.Free.Multi.fill (T.setVm vm₁) cA cy n.toNatClampNeg k.toNatClampNeg (defaultValue ty) n.toNatClampNeg = F at X' step
  have hTh : (T.setVm vm₁).heap = H := hT
  obtain ⟨f1, f2, -, -⟩ := Jvm.Free.Multi.fill_facts (T.setVm vm₁) cA cy n.toNatClampNeg k.toNatClampNeg (defaultValue ty) n.toNatClampNeg
  rw [hF, hTh] at f1 f2
  have hold : ∀ x : Nat, x < H.size → F.heap[x]? = H[x]? := fun x hx => by
    have := Jvm.Free.Multi.fill_old (T.setVm vm₁) cA cy n.toNatClampNeg k.toNatClampNeg (defaultValue ty) (a := x) (by rw [hTh]; exact hx) n.toNatClampNeg
    rw [hF, hTh] at this
    exact this
  have hrow : ∀ j : Nat, j < n.toNatClampNeg → F.heap[H.size + 1 + j]? = some (vp_cell cy z) := fun j hj => by
    have := Jvm.Free.Multi.fill_inner (T.setVm vm₁) cA cy n.toNatClampNeg k.toNatClampNeg (defaultValue ty) n.toNatClampNeg j hj
    rw [hF, hTh, hz] at this
    exact this
  have hout : Jvm.Free.Multi.outerC cA n.toNatClampNeg H.size n.toNatClampNeg = vp_cell cA (n.toNatClampNeg, .inr (.inr (.inr (.inr (fun i => if i < n.toNatClampNeg then some (H.size + 1 + i) else none))))) := by
    rw [vp_cell_q]
    exact vr_outer cA n.toNatClampNeg H.size n.toNatClampNeg
  rw [hout] at f2
  have hlt : ∀ a, a ∈ L → a < H.size := fun a ha => by
    obtain ⟨k9, hk9⟩ := va_pl_get (X := X) (f := f) ha
    exact (hP k9 _ hk9).lt
  have hnl : ∀ i : Nat, i < n.toNatClampNeg → H.size + 1 + i ∉ L := fun i _ h => by
    have := hlt _ h
    omega
  have hnm : ∀ a, a ∈ (List.range n.toNatClampNeg).map (fun i => H.size + 1 + i) → a ∉ L := fun a ha h => by
    obtain ⟨i, -, rfl⟩ := List.mem_map.mp ha
    have := hlt _ h
    omega
  have hP0 : va_P D cl (X ++ va_pl L f) F.heap := hP.kept (fun k9 x hx => hold x.1 ((hP k9 x hx).lt))
  have hP1 : va_P D cl ((X ++ va_pl L f) ++ [(H.size, .inl (cA, n.toNatClampNeg, .inr (.inr (.inr (.inr (fun i => if i < n.toNatClampNeg then some (H.size + 1 + i) else none))))))]) F.heap := hP0.app (fun k9 x hx => by
    have h0 : k9 < 1 := (List.getElem?_eq_some_iff.mp hx).1
    rw [show k9 = 0 by omega] at hx
    cases hx
    exact f2)
  have hP2 : va_P D cl (((X ++ va_pl L f) ++ [(H.size, .inl (cA, n.toNatClampNeg, .inr (.inr (.inr (.inr (fun i => if i < n.toNatClampNeg then some (H.size + 1 + i) else none))))))]) ++ ((List.range n.toNatClampNeg).map (fun i => H.size + 1 + i)).map (fun a => (a, .inl (cy, z)))) F.heap := hP1.app (fun k9 x hx => by
    obtain ⟨a, ha, rfl⟩ := List.mem_map.mp (List.mem_of_getElem? hx)
    obtain ⟨i, hi, rfl⟩ := List.mem_map.mp ha
    exact hrow i (List.mem_range.mp hi))
  have hD2 : va_D A (((X ++ va_pl L f) ++ [(H.size, .inl (cA, n.toNatClampNeg, .inr (.inr (.inr (.inr (fun i => if i < n.toNatClampNeg then some (H.size + 1 + i) else none))))))]) ++ ((List.range n.toNatClampNeg).map (fun i => H.size + 1 + i)).map (fun a => (a, .inl (cy, z)))) := by
    have hD1 := hD.push (e := .inl (cA, n.toNatClampNeg, .inr (.inr (.inr (.inr (fun i => if i < n.toNatClampNeg then some (H.size + 1 + i) else none)))))) hP rfl (hA _ hS.1)
    generalize hW1 : (X ++ va_pl L f) ++ [(H.size, .inl (cA, n.toNatClampNeg, .inr (.inr (.inr (.inr (fun i => if i < n.toNatClampNeg then some (H.size + 1 + i) else none))))))] = W1 at hD1 hP1 ⊢
    have hle : ∀ (k9 : Nat) (x : Nat × va_E), W1[k9]? = some x → x.1 ≤ H.size := fun k9 x hx => by
      rw [← hW1] at hx
      by_cases hl : k9 < (X ++ va_pl L f).length
      · rw [List.getElem?_append_left hl] at hx
        exact Nat.le_of_lt ((hP k9 x hx).lt)
      · rw [List.getElem?_append_right (by omega)] at hx
        have h0 : k9 - (X ++ va_pl L f).length < 1 := (List.getElem?_eq_some_iff.mp hx).1
        rw [show k9 - (X ++ va_pl L f).length = 0 by omega] at hx
        cases hx
        exact Nat.le_refl _
    have hr : ∀ (k9 : Nat) (x : Nat × va_E), (((List.range n.toNatClampNeg).map (fun i => H.size + 1 + i)).map (fun a => ((a, .inl (cy, z)) : Nat × va_E)))[k9]? = some x → x.1 = H.size + 1 + k9 := fun k9 x hx => by
      rw [List.getElem?_map, List.getElem?_map] at hx
      by_cases h9 : k9 < n.toNatClampNeg
      · rw [List.getElem?_range h9] at hx
        cases hx
        rfl
      · have hn0 : (List.range n.toNatClampNeg)[k9]? = none := List.getElem?_eq_none (by rw [List.length_range]; omega)
        rw [hn0] at hx
        cases hx
    refine ⟨fun i j x y hi hj hxy => ?_, fun k9 x hx => ?_⟩
    · by_cases h1 : i < W1.length <;> by_cases h2 : j < W1.length
      · rw [List.getElem?_append_left h1] at hi
        rw [List.getElem?_append_left h2] at hj
        exact hD1.1 i j x y hi hj hxy
      · rw [List.getElem?_append_left h1] at hi
        rw [List.getElem?_append_right (by omega)] at hj
        have := hle _ _ hi
        have := hr _ _ hj
        omega
      · rw [List.getElem?_append_right (by omega)] at hi
        rw [List.getElem?_append_left h2] at hj
        have := hle _ _ hj
        have := hr _ _ hi
        omega
      · rw [List.getElem?_append_right (by omega)] at hi hj
        have := hr _ _ hi
        have := hr _ _ hj
        omega
    · by_cases h1 : k9 < W1.length
      · rw [List.getElem?_append_left h1] at hx
        exact hD1.2 k9 x hx
      · rw [List.getElem?_append_right (by omega)] at hx
        have := hr _ _ hx
        exact hA _ (by have := hS.1; omega)
  have hAr : ArrOfT s cA (.array ty) := fun N9 z9 => by
    obtain ⟨-, k9, hk9, cm9, hkk9⟩ := (hO 0 0 0).1
    exact ⟨(fun q hq => by cases hq), k9, hk9, cm9, hkk9⟩
  have hK2 : va_K D cl (tys ++ [(cA, .array ty)]) s := ⟨hK.1, fun k9 x hx => by
    by_cases hl : k9 < tys.length
    · rw [List.getElem?_append_left hl] at hx
      exact hK.2 k9 x hx
    · rw [List.getElem?_append_right (by omega)] at hx
      have h0 : k9 - tys.length < 1 := (List.getElem?_eq_some_iff.mp hx).1
      rw [show k9 - tys.length = 0 by omega] at hx
      cases hx
      exact ⟨hAr, fA⟩⟩
  obtain ⟨t, a1, b1⟩ := kk H.size (fun i => H.size + 1 + i) cA F.heap (fun i j _ _ h => by have h9 : H.size + 1 + i = H.size + 1 + j := h; omega) hnl hK2 (by rw [← vr_rows hnm]; exact vr_lay hP2) (by rw [← vr_rows hnm]; exact vr_layD hD2) ⟨by rw [f1]; have := hS.1; omega, fun x h1 h2 => (hold x (Nat.lt_of_lt_of_le h1 hS.1)).trans (hS.2.1 x h1 h2), hS.2.2⟩ F rfl X'
  refine ⟨t, step t ?_, b1⟩
  have e : T.heap.size = H.size := by rw [hT]
  rw [e]
  exact a1
end VGM
/-! ===== END ===== -/
end
section
theorem dX0_init_0 : decode cX0_init 0 = .ok (.aload_n 0, 1) := by decide +kernel
theorem dX0_init_1 : decode cX0_init 1 = .ok (.invokespecial 3, 3) := by decide +kernel
theorem dX0_init_4 : decode cX0_init 4 = .ok (.aload_n 0, 1) := by decide +kernel
theorem dX0_init_5 : decode cX0_init 5 = .ok (.bipush 12, 2) := by decide +kernel
theorem dX0_init_7 : decode cX0_init 7 = .ok (.bipush 16, 2) := by decide +kernel
theorem dX0_init_9 : decode cX0_init 9 = .ok (.multianewarray 9 2, 4) := by decide +kernel
theorem dX0_init_13 : decode cX0_init 13 = .ok (.putfield 11, 3) := by decide +kernel
theorem dX0_init_16 : decode cX0_init 16 = .ok (.aload_n 0, 1) := by decide +kernel
theorem dX0_init_17 : decode cX0_init 17 = .ok (.bipush 12, 2) := by decide +kernel
theorem dX0_init_19 : decode cX0_init 19 = .ok (.newarray .int, 2) := by decide +kernel
theorem dX0_init_21 : decode cX0_init 21 = .ok (.putfield 16, 3) := by decide +kernel
theorem dX0_init_24 : decode cX0_init 24 = .ok (.aload_n 0, 1) := by decide +kernel
theorem dX0_init_25 : decode cX0_init 25 = .ok (.bipush 16, 2) := by decide +kernel
theorem dX0_init_27 : decode cX0_init 27 = .ok (.newarray .int, 2) := by decide +kernel
theorem dX0_init_29 : decode cX0_init 29 = .ok (.putfield 20, 3) := by decide +kernel
theorem dX0_init_32 : decode cX0_init 32 = .ok (.aload_n 0, 1) := by decide +kernel
theorem dX0_init_33 : decode cX0_init 33 = .ok (.bipush 16, 2) := by decide +kernel
theorem dX0_init_35 : decode cX0_init 35 = .ok (.newarray .int, 2) := by decide +kernel
theorem dX0_init_37 : decode cX0_init 37 = .ok (.putfield 23, 3) := by decide +kernel
theorem dX0_init_40 : decode cX0_init 40 = .ok (.aload_n 0, 1) := by decide +kernel
theorem dX0_init_41 : decode cX0_init 41 = .ok (.bipush 16, 2) := by decide +kernel
theorem dX0_init_43 : decode cX0_init 43 = .ok (.newarray .int, 2) := by decide +kernel
theorem dX0_init_45 : decode cX0_init 45 = .ok (.putfield 26, 3) := by decide +kernel
theorem dX0_init_48 : decode cX0_init 48 = .ok (.aload_n 0, 1) := by decide +kernel
theorem dX0_init_49 : decode cX0_init 49 = .ok (.iconst 0, 1) := by decide +kernel
theorem dX0_init_50 : decode cX0_init 50 = .ok (.putfield 29, 3) := by decide +kernel
theorem dX0_init_53 : decode cX0_init 53 = .ok (.aload_n 0, 1) := by decide +kernel
theorem dX0_init_54 : decode cX0_init 54 = .ok (.iconst 0, 1) := by decide +kernel
theorem dX0_init_55 : decode cX0_init 55 = .ok (.putfield 33, 3) := by decide +kernel
theorem dX0_init_58 : decode cX0_init 58 = .ok (.aload_n 0, 1) := by decide +kernel
theorem dX0_init_59 : decode cX0_init 59 = .ok (.iconst 0, 1) := by decide +kernel
theorem dX0_init_60 : decode cX0_init 60 = .ok (.putfield 36, 3) := by decide +kernel
theorem dX0_init_63 : decode cX0_init 63 = .ok (.aload_n 0, 1) := by decide +kernel
theorem dX0_init_64 : decode cX0_init 64 = .ok (.iconst 1, 1) := by decide +kernel
theorem dX0_init_65 : decode cX0_init 65 = .ok (.putfield 39, 3) := by decide +kernel
theorem dX0_init_68 : decode cX0_init 68 = .ok (.return_, 1) := by decide +kernel
theorem dX0_isPerson_0 : decode cX0_isPerson 0 = .ok (.iload_n 1, 1) := by decide +kernel
theorem dX0_isPerson_1 : decode cX0_isPerson 1 = .ok (.ifCond .lt 24, 3) := by decide +kernel
theorem dX0_isPerson_4 : decode cX0_isPerson 4 = .ok (.iload_n 1, 1) := by decide +kernel
theorem dX0_isPerson_5 : decode cX0_isPerson 5 = .ok (.bipush 12, 2) := by decide +kernel
theorem dX0_isPerson_7 : decode cX0_isPerson 7 = .ok (.if_icmp .ge 18, 3) := by decide +kernel
theorem dX0_isPerson_10 : decode cX0_isPerson 10 = .ok (.aload_n 0, 1) := by decide +kernel
theorem dX0_isPerson_11 : decode cX0_isPerson 11 = .ok (.getfield 29, 3) := by decide +kernel
theorem dX0_isPerson_14 : decode cX0_isPerson 14 = .ok (.iload_n 1, 1) := by decide +kernel
theorem dX0_isPerson_15 : decode cX0_isPerson 15 = .ok (.invokestatic 42, 3) := by decide +kernel
theorem dX0_isPerson_18 : decode cX0_isPerson 18 = .ok (.ifCond .eq 7, 3) := by decide +kernel
theorem dX0_isPerson_21 : decode cX0_isPerson 21 = .ok (.iconst 1, 1) := by decide +kernel
theorem dX0_isPerson_22 : decode cX0_isPerson 22 = .ok (.goto 4, 3) := by decide +kernel
theorem dX0_isPerson_25 : decode cX0_isPerson 25 = .ok (.iconst 0, 1) := by decide +kernel
theorem dX0_isPerson_26 : decode cX0_isPerson 26 = .ok (.ireturn, 1) := by decide +kernel
theorem dX0_isDoor_0 : decode cX0_isDoor 0 = .ok (.iload_n 1, 1) := by decide +kernel
theorem dX0_isDoor_1 : decode cX0_isDoor 1 = .ok (.ifCond .lt 24, 3) := by decide +kernel
theorem dX0_isDoor_4 : decode cX0_isDoor 4 = .ok (.iload_n 1, 1) := by decide +kernel
theorem dX0_isDoor_5 : decode cX0_isDoor 5 = .ok (.bipush 16, 2) := by decide +kernel
theorem dX0_isDoor_7 : decode cX0_isDoor 7 = .ok (.if_icmp .ge 18, 3) := by decide +kernel
theorem dX0_isDoor_10 : decode cX0_isDoor 10 = .ok (.aload_n 0, 1) := by decide +kernel
theorem dX0_isDoor_11 : decode cX0_isDoor 11 = .ok (.getfield 33, 3) := by decide +kernel
theorem dX0_isDoor_14 : decode cX0_isDoor 14 = .ok (.iload_n 1, 1) := by decide +kernel
theorem dX0_isDoor_15 : decode cX0_isDoor 15 = .ok (.invokestatic 42, 3) := by decide +kernel
theorem dX0_isDoor_18 : decode cX0_isDoor 18 = .ok (.ifCond .eq 7, 3) := by decide +kernel
theorem dX0_isDoor_21 : decode cX0_isDoor 21 = .ok (.iconst 1, 1) := by decide +kernel
theorem dX0_isDoor_22 : decode cX0_isDoor 22 = .ok (.goto 4, 3) := by decide +kernel
theorem dX0_isDoor_25 : decode cX0_isDoor 25 = .ok (.iconst 0, 1) := by decide +kernel
theorem dX0_isDoor_26 : decode cX0_isDoor 26 = .ok (.ireturn, 1) := by decide +kernel
theorem dX0_dreadOf_0 : decode cX0_dreadOf 0 = .ok (.iload_n 1, 1) := by decide +kernel
theorem dX0_dreadOf_1 : decode cX0_dreadOf 1 = .ok (.ifCond .lt 19, 3) := by decide +kernel
theorem dX0_dreadOf_4 : decode cX0_dreadOf 4 = .ok (.iload_n 1, 1) := by decide +kernel
theorem dX0_dreadOf_5 : decode cX0_dreadOf 5 = .ok (.bipush 12, 2) := by decide +kernel
theorem dX0_dreadOf_7 : decode cX0_dreadOf 7 = .ok (.if_icmp .ge 13, 3) := by decide +kernel
theorem dX0_dreadOf_10 : decode cX0_dreadOf 10 = .ok (.iload_n 2, 1) := by decide +kernel
theorem dX0_dreadOf_11 : decode cX0_dreadOf 11 = .ok (.ifCond .lt 9, 3) := by decide +kernel
theorem dX0_dreadOf_14 : decode cX0_dreadOf 14 = .ok (.iload_n 2, 1) := by decide +kernel
theorem dX0_dreadOf_15 : decode cX0_dreadOf 15 = .ok (.bipush 16, 2) := by decide +kernel
theorem dX0_dreadOf_17 : decode cX0_dreadOf 17 = .ok (.if_icmp .lt 5, 3) := by decide +kernel
theorem dX0_dreadOf_20 : decode cX0_dreadOf 20 = .ok (.iconst 0, 1) := by decide +kernel
theorem dX0_dreadOf_21 : decode cX0_dreadOf 21 = .ok (.ireturn, 1) := by decide +kernel
theorem dX0_dreadOf_22 : decode cX0_dreadOf 22 = .ok (.aload_n 0, 1) := by decide +kernel
theorem dX0_dreadOf_23 : decode cX0_dreadOf 23 = .ok (.getfield 11, 3) := by decide +kernel
theorem dX0_dreadOf_26 : decode cX0_dreadOf 26 = .ok (.iload_n 1, 1) := by decide +kernel
theorem dX0_dreadOf_27 : decode cX0_dreadOf 27 = .ok (.aaload, 1) := by decide +kernel
theorem dX0_dreadOf_28 : decode cX0_dreadOf 28 = .ok (.iload_n 2, 1) := by decide +kernel
theorem dX0_dreadOf_29 : decode cX0_dreadOf 29 = .ok (.iaload, 1) := by decide +kernel
theorem dX0_dreadOf_30 : decode cX0_dreadOf 30 = .ok (.ireturn, 1) := by decide +kernel
theorem dX0_greatestDread_0 : decode cX0_greatestDread 0 = .ok (.iconst 0, 1) := by decide +kernel
theorem dX0_greatestDread_1 : decode cX0_greatestDread 1 = .ok (.istore_n 2, 1) := by decide +kernel
theorem dX0_greatestDread_2 : decode cX0_greatestDread 2 = .ok (.iconst 0, 1) := by decide +kernel
theorem dX0_greatestDread_3 : decode cX0_greatestDread 3 = .ok (.istore_n 3, 1) := by decide +kernel
theorem dX0_greatestDread_4 : decode cX0_greatestDread 4 = .ok (.iload_n 3, 1) := by decide +kernel
theorem dX0_greatestDread_5 : decode cX0_greatestDread 5 = .ok (.bipush 16, 2) := by decide +kernel
theorem dX0_greatestDread_7 : decode cX0_greatestDread 7 = .ok (.if_icmp .ge 20, 3) := by decide +kernel
theorem dX0_greatestDread_10 : decode cX0_greatestDread 10 = .ok (.iload_n 2, 1) := by decide +kernel
theorem dX0_greatestDread_11 : decode cX0_greatestDread 11 = .ok (.aload_n 0, 1) := by decide +kernel
theorem dX0_greatestDread_12 : decode cX0_greatestDread 12 = .ok (.iload_n 1, 1) := by decide +kernel
theorem dX0_greatestDread_13 : decode cX0_greatestDread 13 = .ok (.iload_n 3, 1) := by decide +kernel
theorem dX0_greatestDread_14 : decode cX0_greatestDread 14 = .ok (.invokevirtual 50, 3) := by decide +kernel
theorem dX0_greatestDread_17 : decode cX0_greatestDread 17 = .ok (.invokestatic 54, 3) := by decide +kernel
theorem dX0_greatestDread_20 : decode cX0_greatestDread 20 = .ok (.istore_n 2, 1) := by decide +kernel
theorem dX0_greatestDread_21 : decode cX0_greatestDread 21 = .ok (.iinc 3 1, 3) := by decide +kernel
theorem dX0_greatestDread_24 : decode cX0_greatestDread 24 = .ok (.goto (-20), 3) := by decide +kernel
theorem dX0_greatestDread_27 : decode cX0_greatestDread 27 = .ok (.iload_n 2, 1) := by decide +kernel
theorem dX0_greatestDread_28 : decode cX0_greatestDread 28 = .ok (.ireturn, 1) := by decide +kernel
theorem dX0_fearOf_0 : decode cX0_fearOf 0 = .ok (.aload_n 0, 1) := by decide +kernel
theorem dX0_fearOf_1 : decode cX0_fearOf 1 = .ok (.iload_n 1, 1) := by decide +kernel
theorem dX0_fearOf_2 : decode cX0_fearOf 2 = .ok (.invokevirtual 59, 3) := by decide +kernel
theorem dX0_fearOf_5 : decode cX0_fearOf 5 = .ok (.istore_n 2, 1) := by decide +kernel
theorem dX0_fearOf_6 : decode cX0_fearOf 6 = .ok (.iload_n 2, 1) := by decide +kernel
theorem dX0_fearOf_7 : decode cX0_fearOf 7 = .ok (.ifCond .ne 6, 3) := by decide +kernel
theorem dX0_fearOf_10 : decode cX0_fearOf 10 = .ok (.bipush (-2), 2) := by decide +kernel
theorem dX0_fearOf_12 : decode cX0_fearOf 12 = .ok (.ireturn, 1) := by decide +kernel
theorem dX0_fearOf_13 : decode cX0_fearOf 13 = .ok (.bipush (-2), 2) := by decide +kernel
theorem dX0_fearOf_15 : decode cX0_fearOf 15 = .ok (.istore_n 3, 1) := by decide +kernel
theorem dX0_fearOf_16 : decode cX0_fearOf 16 = .ok (.iconst 0, 1) := by decide +kernel
theorem dX0_fearOf_17 : decode cX0_fearOf 17 = .ok (.istore 4, 2) := by decide +kernel
theorem dX0_fearOf_19 : decode cX0_fearOf 19 = .ok (.iload 4, 2) := by decide +kernel
theorem dX0_fearOf_21 : decode cX0_fearOf 21 = .ok (.bipush 16, 2) := by decide +kernel
theorem dX0_fearOf_23 : decode cX0_fearOf 23 = .ok (.if_icmp .ge 30, 3) := by decide +kernel
theorem dX0_fearOf_26 : decode cX0_fearOf 26 = .ok (.aload_n 0, 1) := by decide +kernel
theorem dX0_fearOf_27 : decode cX0_fearOf 27 = .ok (.iload_n 1, 1) := by decide +kernel
theorem dX0_fearOf_28 : decode cX0_fearOf 28 = .ok (.iload 4, 2) := by decide +kernel
theorem dX0_fearOf_30 : decode cX0_fearOf 30 = .ok (.invokevirtual 50, 3) := by decide +kernel
theorem dX0_fearOf_33 : decode cX0_fearOf 33 = .ok (.iload_n 2, 1) := by decide +kernel
theorem dX0_fearOf_34 : decode cX0_fearOf 34 = .ok (.if_icmp .ne 13, 3) := by decide +kernel
theorem dX0_fearOf_37 : decode cX0_fearOf 37 = .ok (.iload_n 3, 1) := by decide +kernel
theorem dX0_fearOf_38 : decode cX0_fearOf 38 = .ok (.ifCond .lt 6, 3) := by decide +kernel
theorem dX0_fearOf_41 : decode cX0_fearOf 41 = .ok (.bipush (-2), 2) := by decide +kernel
theorem dX0_fearOf_43 : decode cX0_fearOf 43 = .ok (.ireturn, 1) := by decide +kernel
theorem dX0_fearOf_44 : decode cX0_fearOf 44 = .ok (.iload 4, 2) := by decide +kernel
theorem dX0_fearOf_46 : decode cX0_fearOf 46 = .ok (.istore_n 3, 1) := by decide +kernel
theorem dX0_fearOf_47 : decode cX0_fearOf 47 = .ok (.iinc 4 1, 3) := by decide +kernel
theorem dX0_fearOf_50 : decode cX0_fearOf 50 = .ok (.goto (-31), 3) := by decide +kernel
theorem dX0_fearOf_53 : decode cX0_fearOf 53 = .ok (.iload_n 3, 1) := by decide +kernel
theorem dX0_fearOf_54 : decode cX0_fearOf 54 = .ok (.ireturn, 1) := by decide +kernel
theorem dX0_havingFear_0 : decode cX0_havingFear 0 = .ok (.iconst 0, 1) := by decide +kernel
theorem dX0_havingFear_1 : decode cX0_havingFear 1 = .ok (.istore_n 2, 1) := by decide +kernel
theorem dX0_havingFear_2 : decode cX0_havingFear 2 = .ok (.iconst 0, 1) := by decide +kernel
theorem dX0_havingFear_3 : decode cX0_havingFear 3 = .ok (.istore_n 3, 1) := by decide +kernel
theorem dX0_havingFear_4 : decode cX0_havingFear 4 = .ok (.iload_n 3, 1) := by decide +kernel
theorem dX0_havingFear_5 : decode cX0_havingFear 5 = .ok (.bipush 12, 2) := by decide +kernel
theorem dX0_havingFear_7 : decode cX0_havingFear 7 = .ok (.if_icmp .ge 24, 3) := by decide +kernel
theorem dX0_havingFear_10 : decode cX0_havingFear 10 = .ok (.aload_n 0, 1) := by decide +kernel
theorem dX0_havingFear_11 : decode cX0_havingFear 11 = .ok (.iload_n 3, 1) := by decide +kernel
theorem dX0_havingFear_12 : decode cX0_havingFear 12 = .ok (.invokevirtual 63, 3) := by decide +kernel
theorem dX0_havingFear_15 : decode cX0_havingFear 15 = .ok (.iload_n 1, 1) := by decide +kernel
theorem dX0_havingFear_16 : decode cX0_havingFear 16 = .ok (.if_icmp .ne 9, 3) := by decide +kernel
theorem dX0_havingFear_19 : decode cX0_havingFear 19 = .ok (.iload_n 2, 1) := by decide +kernel
theorem dX0_havingFear_20 : decode cX0_havingFear 20 = .ok (.iconst 1, 1) := by decide +kernel
theorem dX0_havingFear_21 : decode cX0_havingFear 21 = .ok (.iload_n 3, 1) := by decide +kernel
theorem dX0_havingFear_22 : decode cX0_havingFear 22 = .ok (.ishl, 1) := by decide +kernel
theorem dX0_havingFear_23 : decode cX0_havingFear 23 = .ok (.ior, 1) := by decide +kernel
theorem dX0_havingFear_24 : decode cX0_havingFear 24 = .ok (.istore_n 2, 1) := by decide +kernel
theorem dX0_havingFear_25 : decode cX0_havingFear 25 = .ok (.iinc 3 1, 3) := by decide +kernel
theorem dX0_havingFear_28 : decode cX0_havingFear 28 = .ok (.goto (-24), 3) := by decide +kernel
theorem dX0_havingFear_31 : decode cX0_havingFear 31 = .ok (.iload_n 2, 1) := by decide +kernel
theorem dX0_havingFear_32 : decode cX0_havingFear 32 = .ok (.ireturn, 1) := by decide +kernel
theorem dX0_nobodysFears_0 : decode cX0_nobodysFears 0 = .ok (.ldc 66, 2) := by decide +kernel
theorem dX0_nobodysFears_2 : decode cX0_nobodysFears 2 = .ok (.istore_n 1, 1) := by decide +kernel
theorem dX0_nobodysFears_3 : decode cX0_nobodysFears 3 = .ok (.iconst 0, 1) := by decide +kernel
theorem dX0_nobodysFears_4 : decode cX0_nobodysFears 4 = .ok (.istore_n 2, 1) := by decide +kernel
theorem dX0_nobodysFears_5 : decode cX0_nobodysFears 5 = .ok (.iload_n 2, 1) := by decide +kernel
theorem dX0_nobodysFears_6 : decode cX0_nobodysFears 6 = .ok (.bipush 12, 2) := by decide +kernel
theorem dX0_nobodysFears_8 : decode cX0_nobodysFears 8 = .ok (.if_icmp .ge 20, 3) := by decide +kernel
theorem dX0_nobodysFears_11 : decode cX0_nobodysFears 11 = .ok (.iload_n 1, 1) := by decide +kernel
theorem dX0_nobodysFears_12 : decode cX0_nobodysFears 12 = .ok (.aload_n 0, 1) := by decide +kernel
theorem dX0_nobodysFears_13 : decode cX0_nobodysFears 13 = .ok (.iload_n 2, 1) := by decide +kernel
theorem dX0_nobodysFears_14 : decode cX0_nobodysFears 14 = .ok (.iconst 1, 1) := by decide +kernel
theorem dX0_nobodysFears_15 : decode cX0_nobodysFears 15 = .ok (.invokevirtual 67, 3) := by decide +kernel
theorem dX0_nobodysFears_18 : decode cX0_nobodysFears 18 = .ok (.iconst (-1), 1) := by decide +kernel
theorem dX0_nobodysFears_19 : decode cX0_nobodysFears 19 = .ok (.ixor, 1) := by decide +kernel
theorem dX0_nobodysFears_20 : decode cX0_nobodysFears 20 = .ok (.iand, 1) := by decide +kernel
theorem dX0_nobodysFears_21 : decode cX0_nobodysFears 21 = .ok (.istore_n 1, 1) := by decide +kernel
theorem dX0_nobodysFears_22 : decode cX0_nobodysFears 22 = .ok (.iinc 2 1, 3) := by decide +kernel
theorem dX0_nobodysFears_25 : decode cX0_nobodysFears 25 = .ok (.goto (-20), 3) := by decide +kernel
theorem dX0_nobodysFears_28 : decode cX0_nobodysFears 28 = .ok (.iload_n 1, 1) := by decide +kernel
theorem dX0_nobodysFears_29 : decode cX0_nobodysFears 29 = .ok (.ireturn, 1) := by decide +kernel
theorem dX0_allsFears_0 : decode cX0_allsFears 0 = .ok (.ldc 66, 2) := by decide +kernel
theorem dX0_allsFears_2 : decode cX0_allsFears 2 = .ok (.istore_n 1, 1) := by decide +kernel
theorem dX0_allsFears_3 : decode cX0_allsFears 3 = .ok (.iconst 0, 1) := by decide +kernel
theorem dX0_allsFears_4 : decode cX0_allsFears 4 = .ok (.istore_n 2, 1) := by decide +kernel
theorem dX0_allsFears_5 : decode cX0_allsFears 5 = .ok (.iload_n 2, 1) := by decide +kernel
theorem dX0_allsFears_6 : decode cX0_allsFears 6 = .ok (.bipush 12, 2) := by decide +kernel
theorem dX0_allsFears_8 : decode cX0_allsFears 8 = .ok (.if_icmp .ge 26, 3) := by decide +kernel
theorem dX0_allsFears_11 : decode cX0_allsFears 11 = .ok (.aload_n 0, 1) := by decide +kernel
theorem dX0_allsFears_12 : decode cX0_allsFears 12 = .ok (.iload_n 2, 1) := by decide +kernel
theorem dX0_allsFears_13 : decode cX0_allsFears 13 = .ok (.invokevirtual 70, 3) := by decide +kernel
theorem dX0_allsFears_16 : decode cX0_allsFears 16 = .ok (.ifCond .eq 12, 3) := by decide +kernel
theorem dX0_allsFears_19 : decode cX0_allsFears 19 = .ok (.iload_n 1, 1) := by decide +kernel
theorem dX0_allsFears_20 : decode cX0_allsFears 20 = .ok (.aload_n 0, 1) := by decide +kernel
theorem dX0_allsFears_21 : decode cX0_allsFears 21 = .ok (.iload_n 2, 1) := by decide +kernel
theorem dX0_allsFears_22 : decode cX0_allsFears 22 = .ok (.iconst 1, 1) := by decide +kernel
theorem dX0_allsFears_23 : decode cX0_allsFears 23 = .ok (.invokevirtual 67, 3) := by decide +kernel
theorem dX0_allsFears_26 : decode cX0_allsFears 26 = .ok (.iand, 1) := by decide +kernel
theorem dX0_allsFears_27 : decode cX0_allsFears 27 = .ok (.istore_n 1, 1) := by decide +kernel
theorem dX0_allsFears_28 : decode cX0_allsFears 28 = .ok (.iinc 2 1, 3) := by decide +kernel
theorem dX0_allsFears_31 : decode cX0_allsFears 31 = .ok (.goto (-26), 3) := by decide +kernel
theorem dX0_allsFears_34 : decode cX0_allsFears 34 = .ok (.iload_n 1, 1) := by decide +kernel
theorem dX0_allsFears_35 : decode cX0_allsFears 35 = .ok (.ireturn, 1) := by decide +kernel
theorem dX0_fearsFrom_0 : decode cX0_fearsFrom 0 = .ok (.iconst 0, 1) := by decide +kernel
theorem dX0_fearsFrom_1 : decode cX0_fearsFrom 1 = .ok (.istore_n 3, 1) := by decide +kernel
theorem dX0_fearsFrom_2 : decode cX0_fearsFrom 2 = .ok (.iconst 0, 1) := by decide +kernel
theorem dX0_fearsFrom_3 : decode cX0_fearsFrom 3 = .ok (.istore 4, 2) := by decide +kernel
theorem dX0_fearsFrom_5 : decode cX0_fearsFrom 5 = .ok (.iload 4, 2) := by decide +kernel
theorem dX0_fearsFrom_7 : decode cX0_fearsFrom 7 = .ok (.bipush 16, 2) := by decide +kernel
theorem dX0_fearsFrom_9 : decode cX0_fearsFrom 9 = .ok (.if_icmp .ge 27, 3) := by decide +kernel
theorem dX0_fearsFrom_12 : decode cX0_fearsFrom 12 = .ok (.aload_n 0, 1) := by decide +kernel
theorem dX0_fearsFrom_13 : decode cX0_fearsFrom 13 = .ok (.iload_n 1, 1) := by decide +kernel
theorem dX0_fearsFrom_14 : decode cX0_fearsFrom 14 = .ok (.iload 4, 2) := by decide +kernel
theorem dX0_fearsFrom_16 : decode cX0_fearsFrom 16 = .ok (.invokevirtual 50, 3) := by decide +kernel
theorem dX0_fearsFrom_19 : decode cX0_fearsFrom 19 = .ok (.iload_n 2, 1) := by decide +kernel
theorem dX0_fearsFrom_20 : decode cX0_fearsFrom 20 = .ok (.if_icmp .lt 10, 3) := by decide +kernel
theorem dX0_fearsFrom_23 : decode cX0_fearsFrom 23 = .ok (.iload_n 3, 1) := by decide +kernel
theorem dX0_fearsFrom_24 : decode cX0_fearsFrom 24 = .ok (.iconst 1, 1) := by decide +kernel
theorem dX0_fearsFrom_25 : decode cX0_fearsFrom 25 = .ok (.iload 4, 2) := by decide +kernel
theorem dX0_fearsFrom_27 : decode cX0_fearsFrom 27 = .ok (.ishl, 1) := by decide +kernel
theorem dX0_fearsFrom_28 : decode cX0_fearsFrom 28 = .ok (.ior, 1) := by decide +kernel
theorem dX0_fearsFrom_29 : decode cX0_fearsFrom 29 = .ok (.istore_n 3, 1) := by decide +kernel
theorem dX0_fearsFrom_30 : decode cX0_fearsFrom 30 = .ok (.iinc 4 1, 3) := by decide +kernel
theorem dX0_fearsFrom_33 : decode cX0_fearsFrom 33 = .ok (.goto (-28), 3) := by decide +kernel
theorem dX0_fearsFrom_36 : decode cX0_fearsFrom 36 = .ok (.iload_n 3, 1) := by decide +kernel
theorem dX0_fearsFrom_37 : decode cX0_fearsFrom 37 = .ok (.ireturn, 1) := by decide +kernel
theorem dX0_knownTo_0 : decode cX0_knownTo 0 = .ok (.iload_n 1, 1) := by decide +kernel
theorem dX0_knownTo_1 : decode cX0_knownTo 1 = .ok (.ifCond .lt 18, 3) := by decide +kernel
theorem dX0_knownTo_4 : decode cX0_knownTo 4 = .ok (.iload_n 1, 1) := by decide +kernel
theorem dX0_knownTo_5 : decode cX0_knownTo 5 = .ok (.bipush 12, 2) := by decide +kernel
theorem dX0_knownTo_7 : decode cX0_knownTo 7 = .ok (.if_icmp .ge 12, 3) := by decide +kernel
theorem dX0_knownTo_10 : decode cX0_knownTo 10 = .ok (.aload_n 0, 1) := by decide +kernel
theorem dX0_knownTo_11 : decode cX0_knownTo 11 = .ok (.getfield 16, 3) := by decide +kernel
theorem dX0_knownTo_14 : decode cX0_knownTo 14 = .ok (.iload_n 1, 1) := by decide +kernel
theorem dX0_knownTo_15 : decode cX0_knownTo 15 = .ok (.iaload, 1) := by decide +kernel
theorem dX0_knownTo_16 : decode cX0_knownTo 16 = .ok (.goto 4, 3) := by decide +kernel
theorem dX0_knownTo_19 : decode cX0_knownTo 19 = .ok (.iconst 0, 1) := by decide +kernel
theorem dX0_knownTo_20 : decode cX0_knownTo 20 = .ok (.ireturn, 1) := by decide +kernel
theorem dX0_acquaintances_0 : decode cX0_acquaintances 0 = .ok (.iconst 0, 1) := by decide +kernel
theorem dX0_acquaintances_1 : decode cX0_acquaintances 1 = .ok (.istore_n 1, 1) := by decide +kernel
theorem dX0_acquaintances_2 : decode cX0_acquaintances 2 = .ok (.iconst 0, 1) := by decide +kernel
theorem dX0_acquaintances_3 : decode cX0_acquaintances 3 = .ok (.istore_n 2, 1) := by decide +kernel
theorem dX0_acquaintances_4 : decode cX0_acquaintances 4 = .ok (.iload_n 2, 1) := by decide +kernel
theorem dX0_acquaintances_5 : decode cX0_acquaintances 5 = .ok (.bipush 12, 2) := by decide +kernel
theorem dX0_acquaintances_7 : decode cX0_acquaintances 7 = .ok (.if_icmp .ge 21, 3) := by decide +kernel
theorem dX0_acquaintances_10 : decode cX0_acquaintances 10 = .ok (.iload_n 1, 1) := by decide +kernel
theorem dX0_acquaintances_11 : decode cX0_acquaintances 11 = .ok (.aload_n 0, 1) := by decide +kernel
theorem dX0_acquaintances_12 : decode cX0_acquaintances 12 = .ok (.getfield 16, 3) := by decide +kernel
theorem dX0_acquaintances_15 : decode cX0_acquaintances 15 = .ok (.iload_n 2, 1) := by decide +kernel
theorem dX0_acquaintances_16 : decode cX0_acquaintances 16 = .ok (.iaload, 1) := by decide +kernel
theorem dX0_acquaintances_17 : decode cX0_acquaintances 17 = .ok (.invokestatic 74, 3) := by decide +kernel
theorem dX0_acquaintances_20 : decode cX0_acquaintances 20 = .ok (.iadd, 1) := by decide +kernel
theorem dX0_acquaintances_21 : decode cX0_acquaintances 21 = .ok (.istore_n 1, 1) := by decide +kernel
theorem dX0_acquaintances_22 : decode cX0_acquaintances 22 = .ok (.iinc 2 1, 3) := by decide +kernel
theorem dX0_acquaintances_25 : decode cX0_acquaintances 25 = .ok (.goto (-21), 3) := by decide +kernel
theorem dX0_acquaintances_28 : decode cX0_acquaintances 28 = .ok (.iload_n 1, 1) := by decide +kernel
theorem dX0_acquaintances_29 : decode cX0_acquaintances 29 = .ok (.iconst 2, 1) := by decide +kernel
theorem dX0_acquaintances_30 : decode cX0_acquaintances 30 = .ok (.idiv, 1) := by decide +kernel
theorem dX0_acquaintances_31 : decode cX0_acquaintances 31 = .ok (.ireturn, 1) := by decide +kernel
theorem dX0_opens_0 : decode cX0_opens 0 = .ok (.aload_n 0, 1) := by decide +kernel
theorem dX0_opens_1 : decode cX0_opens 1 = .ok (.iload_n 1, 1) := by decide +kernel
theorem dX0_opens_2 : decode cX0_opens 2 = .ok (.invokevirtual 70, 3) := by decide +kernel
theorem dX0_opens_5 : decode cX0_opens 5 = .ok (.ifCond .eq 49, 3) := by decide +kernel
theorem dX0_opens_8 : decode cX0_opens 8 = .ok (.aload_n 0, 1) := by decide +kernel
theorem dX0_opens_9 : decode cX0_opens 9 = .ok (.iload_n 2, 1) := by decide +kernel
theorem dX0_opens_10 : decode cX0_opens 10 = .ok (.invokevirtual 79, 3) := by decide +kernel
theorem dX0_opens_13 : decode cX0_opens 13 = .ok (.ifCond .eq 41, 3) := by decide +kernel
theorem dX0_opens_16 : decode cX0_opens 16 = .ok (.aload_n 0, 1) := by decide +kernel
theorem dX0_opens_17 : decode cX0_opens 17 = .ok (.iload_n 1, 1) := by decide +kernel
theorem dX0_opens_18 : decode cX0_opens 18 = .ok (.invokevirtual 63, 3) := by decide +kernel
theorem dX0_opens_21 : decode cX0_opens 21 = .ok (.aload_n 0, 1) := by decide +kernel
theorem dX0_opens_22 : decode cX0_opens 22 = .ok (.getfield 20, 3) := by decide +kernel
theorem dX0_opens_25 : decode cX0_opens 25 = .ok (.iload_n 2, 1) := by decide +kernel
theorem dX0_opens_26 : decode cX0_opens 26 = .ok (.iaload, 1) := by decide +kernel
theorem dX0_opens_27 : decode cX0_opens 27 = .ok (.if_icmp .ne 27, 3) := by decide +kernel
theorem dX0_opens_30 : decode cX0_opens 30 = .ok (.aload_n 0, 1) := by decide +kernel
theorem dX0_opens_31 : decode cX0_opens 31 = .ok (.iload_n 1, 1) := by decide +kernel
theorem dX0_opens_32 : decode cX0_opens 32 = .ok (.aload_n 0, 1) := by decide +kernel
theorem dX0_opens_33 : decode cX0_opens 33 = .ok (.getfield 20, 3) := by decide +kernel
theorem dX0_opens_36 : decode cX0_opens 36 = .ok (.iload_n 2, 1) := by decide +kernel
theorem dX0_opens_37 : decode cX0_opens 37 = .ok (.iaload, 1) := by decide +kernel
theorem dX0_opens_38 : decode cX0_opens 38 = .ok (.invokevirtual 50, 3) := by decide +kernel
theorem dX0_opens_41 : decode cX0_opens 41 = .ok (.aload_n 0, 1) := by decide +kernel
theorem dX0_opens_42 : decode cX0_opens 42 = .ok (.getfield 23, 3) := by decide +kernel
theorem dX0_opens_45 : decode cX0_opens 45 = .ok (.iload_n 2, 1) := by decide +kernel
theorem dX0_opens_46 : decode cX0_opens 46 = .ok (.iaload, 1) := by decide +kernel
theorem dX0_opens_47 : decode cX0_opens 47 = .ok (.if_icmp .lt 7, 3) := by decide +kernel
theorem dX0_opens_50 : decode cX0_opens 50 = .ok (.iconst 1, 1) := by decide +kernel
theorem dX0_opens_51 : decode cX0_opens 51 = .ok (.goto 4, 3) := by decide +kernel
theorem dX0_opens_54 : decode cX0_opens 54 = .ok (.iconst 0, 1) := by decide +kernel
theorem dX0_opens_55 : decode cX0_opens 55 = .ok (.ireturn, 1) := by decide +kernel
theorem dX0_doorsOpenTo_0 : decode cX0_doorsOpenTo 0 = .ok (.iconst 0, 1) := by decide +kernel
theorem dX0_doorsOpenTo_1 : decode cX0_doorsOpenTo 1 = .ok (.istore_n 2, 1) := by decide +kernel
theorem dX0_doorsOpenTo_2 : decode cX0_doorsOpenTo 2 = .ok (.iconst 0, 1) := by decide +kernel
theorem dX0_doorsOpenTo_3 : decode cX0_doorsOpenTo 3 = .ok (.istore_n 3, 1) := by decide +kernel
theorem dX0_doorsOpenTo_4 : decode cX0_doorsOpenTo 4 = .ok (.iload_n 3, 1) := by decide +kernel
theorem dX0_doorsOpenTo_5 : decode cX0_doorsOpenTo 5 = .ok (.bipush 16, 2) := by decide +kernel
theorem dX0_doorsOpenTo_7 : decode cX0_doorsOpenTo 7 = .ok (.if_icmp .ge 24, 3) := by decide +kernel
theorem dX0_doorsOpenTo_10 : decode cX0_doorsOpenTo 10 = .ok (.aload_n 0, 1) := by decide +kernel
theorem dX0_doorsOpenTo_11 : decode cX0_doorsOpenTo 11 = .ok (.iload_n 1, 1) := by decide +kernel
theorem dX0_doorsOpenTo_12 : decode cX0_doorsOpenTo 12 = .ok (.iload_n 3, 1) := by decide +kernel
theorem dX0_doorsOpenTo_13 : decode cX0_doorsOpenTo 13 = .ok (.invokevirtual 82, 3) := by decide +kernel
theorem dX0_doorsOpenTo_16 : decode cX0_doorsOpenTo 16 = .ok (.ifCond .eq 9, 3) := by decide +kernel
theorem dX0_doorsOpenTo_19 : decode cX0_doorsOpenTo 19 = .ok (.iload_n 2, 1) := by decide +kernel
theorem dX0_doorsOpenTo_20 : decode cX0_doorsOpenTo 20 = .ok (.iconst 1, 1) := by decide +kernel
theorem dX0_doorsOpenTo_21 : decode cX0_doorsOpenTo 21 = .ok (.iload_n 3, 1) := by decide +kernel
theorem dX0_doorsOpenTo_22 : decode cX0_doorsOpenTo 22 = .ok (.ishl, 1) := by decide +kernel
theorem dX0_doorsOpenTo_23 : decode cX0_doorsOpenTo 23 = .ok (.ior, 1) := by decide +kernel
theorem dX0_doorsOpenTo_24 : decode cX0_doorsOpenTo 24 = .ok (.istore_n 2, 1) := by decide +kernel
theorem dX0_doorsOpenTo_25 : decode cX0_doorsOpenTo 25 = .ok (.iinc 3 1, 3) := by decide +kernel
theorem dX0_doorsOpenTo_28 : decode cX0_doorsOpenTo 28 = .ok (.goto (-24), 3) := by decide +kernel
theorem dX0_doorsOpenTo_31 : decode cX0_doorsOpenTo 31 = .ok (.iload_n 2, 1) := by decide +kernel
theorem dX0_doorsOpenTo_32 : decode cX0_doorsOpenTo 32 = .ok (.ireturn, 1) := by decide +kernel
theorem dX0_openersOf_0 : decode cX0_openersOf 0 = .ok (.iconst 0, 1) := by decide +kernel
theorem dX0_openersOf_1 : decode cX0_openersOf 1 = .ok (.istore_n 2, 1) := by decide +kernel
theorem dX0_openersOf_2 : decode cX0_openersOf 2 = .ok (.iconst 0, 1) := by decide +kernel
theorem dX0_openersOf_3 : decode cX0_openersOf 3 = .ok (.istore_n 3, 1) := by decide +kernel
theorem dX0_openersOf_4 : decode cX0_openersOf 4 = .ok (.iload_n 3, 1) := by decide +kernel
theorem dX0_openersOf_5 : decode cX0_openersOf 5 = .ok (.bipush 12, 2) := by decide +kernel
theorem dX0_openersOf_7 : decode cX0_openersOf 7 = .ok (.if_icmp .ge 24, 3) := by decide +kernel
theorem dX0_openersOf_10 : decode cX0_openersOf 10 = .ok (.aload_n 0, 1) := by decide +kernel
theorem dX0_openersOf_11 : decode cX0_openersOf 11 = .ok (.iload_n 3, 1) := by decide +kernel
theorem dX0_openersOf_12 : decode cX0_openersOf 12 = .ok (.iload_n 1, 1) := by decide +kernel
theorem dX0_openersOf_13 : decode cX0_openersOf 13 = .ok (.invokevirtual 82, 3) := by decide +kernel
theorem dX0_openersOf_16 : decode cX0_openersOf 16 = .ok (.ifCond .eq 9, 3) := by decide +kernel
theorem dX0_openersOf_19 : decode cX0_openersOf 19 = .ok (.iload_n 2, 1) := by decide +kernel
theorem dX0_openersOf_20 : decode cX0_openersOf 20 = .ok (.iconst 1, 1) := by decide +kernel
theorem dX0_openersOf_21 : decode cX0_openersOf 21 = .ok (.iload_n 3, 1) := by decide +kernel
theorem dX0_openersOf_22 : decode cX0_openersOf 22 = .ok (.ishl, 1) := by decide +kernel
theorem dX0_openersOf_23 : decode cX0_openersOf 23 = .ok (.ior, 1) := by decide +kernel
theorem dX0_openersOf_24 : decode cX0_openersOf 24 = .ok (.istore_n 2, 1) := by decide +kernel
theorem dX0_openersOf_25 : decode cX0_openersOf 25 = .ok (.iinc 3 1, 3) := by decide +kernel
theorem dX0_openersOf_28 : decode cX0_openersOf 28 = .ok (.goto (-24), 3) := by decide +kernel
theorem dX0_openersOf_31 : decode cX0_openersOf 31 = .ok (.iload_n 2, 1) := by decide +kernel
theorem dX0_openersOf_32 : decode cX0_openersOf 32 = .ok (.ireturn, 1) := by decide +kernel
theorem dX0_openedInAll_0 : decode cX0_openedInAll 0 = .ok (.iconst 0, 1) := by decide +kernel
theorem dX0_openedInAll_1 : decode cX0_openedInAll 1 = .ok (.istore_n 1, 1) := by decide +kernel
theorem dX0_openedInAll_2 : decode cX0_openedInAll 2 = .ok (.iconst 0, 1) := by decide +kernel
theorem dX0_openedInAll_3 : decode cX0_openedInAll 3 = .ok (.istore_n 2, 1) := by decide +kernel
theorem dX0_openedInAll_4 : decode cX0_openedInAll 4 = .ok (.iload_n 2, 1) := by decide +kernel
theorem dX0_openedInAll_5 : decode cX0_openedInAll 5 = .ok (.bipush 16, 2) := by decide +kernel
theorem dX0_openedInAll_7 : decode cX0_openedInAll 7 = .ok (.if_icmp .ge 18, 3) := by decide +kernel
theorem dX0_openedInAll_10 : decode cX0_openedInAll 10 = .ok (.iload_n 1, 1) := by decide +kernel
theorem dX0_openedInAll_11 : decode cX0_openedInAll 11 = .ok (.aload_n 0, 1) := by decide +kernel
theorem dX0_openedInAll_12 : decode cX0_openedInAll 12 = .ok (.getfield 26, 3) := by decide +kernel
theorem dX0_openedInAll_15 : decode cX0_openedInAll 15 = .ok (.iload_n 2, 1) := by decide +kernel
theorem dX0_openedInAll_16 : decode cX0_openedInAll 16 = .ok (.iaload, 1) := by decide +kernel
theorem dX0_openedInAll_17 : decode cX0_openedInAll 17 = .ok (.iadd, 1) := by decide +kernel
theorem dX0_openedInAll_18 : decode cX0_openedInAll 18 = .ok (.istore_n 1, 1) := by decide +kernel
theorem dX0_openedInAll_19 : decode cX0_openedInAll 19 = .ok (.iinc 2 1, 3) := by decide +kernel
theorem dX0_openedInAll_22 : decode cX0_openedInAll 22 = .ok (.goto (-18), 3) := by decide +kernel
theorem dX0_openedInAll_25 : decode cX0_openedInAll 25 = .ok (.iload_n 1, 1) := by decide +kernel
theorem dX0_openedInAll_26 : decode cX0_openedInAll 26 = .ok (.ireturn, 1) := by decide +kernel
theorem dX0_copyFrom_0 : decode cX0_copyFrom 0 = .ok (.aload_n 0, 1) := by decide +kernel
theorem dX0_copyFrom_1 : decode cX0_copyFrom 1 = .ok (.aload_n 1, 1) := by decide +kernel
theorem dX0_copyFrom_2 : decode cX0_copyFrom 2 = .ok (.invokevirtual 86, 3) := by decide +kernel
theorem dX0_copyFrom_5 : decode cX0_copyFrom 5 = .ok (.iconst 0, 1) := by decide +kernel
theorem dX0_copyFrom_6 : decode cX0_copyFrom 6 = .ok (.istore_n 2, 1) := by decide +kernel
theorem dX0_copyFrom_7 : decode cX0_copyFrom 7 = .ok (.iload_n 2, 1) := by decide +kernel
theorem dX0_copyFrom_8 : decode cX0_copyFrom 8 = .ok (.bipush 12, 2) := by decide +kernel
theorem dX0_copyFrom_10 : decode cX0_copyFrom 10 = .ok (.if_icmp .ge 21, 3) := by decide +kernel
theorem dX0_copyFrom_13 : decode cX0_copyFrom 13 = .ok (.aload_n 0, 1) := by decide +kernel
theorem dX0_copyFrom_14 : decode cX0_copyFrom 14 = .ok (.getfield 16, 3) := by decide +kernel
theorem dX0_copyFrom_17 : decode cX0_copyFrom 17 = .ok (.iload_n 2, 1) := by decide +kernel
theorem dX0_copyFrom_18 : decode cX0_copyFrom 18 = .ok (.aload_n 1, 1) := by decide +kernel
theorem dX0_copyFrom_19 : decode cX0_copyFrom 19 = .ok (.getfield 16, 3) := by decide +kernel
theorem dX0_copyFrom_22 : decode cX0_copyFrom 22 = .ok (.iload_n 2, 1) := by decide +kernel
theorem dX0_copyFrom_23 : decode cX0_copyFrom 23 = .ok (.iaload, 1) := by decide +kernel
theorem dX0_copyFrom_24 : decode cX0_copyFrom 24 = .ok (.iastore, 1) := by decide +kernel
theorem dX0_copyFrom_25 : decode cX0_copyFrom 25 = .ok (.iinc 2 1, 3) := by decide +kernel
theorem dX0_copyFrom_28 : decode cX0_copyFrom 28 = .ok (.goto (-21), 3) := by decide +kernel
theorem dX0_copyFrom_31 : decode cX0_copyFrom 31 = .ok (.iconst 0, 1) := by decide +kernel
theorem dX0_copyFrom_32 : decode cX0_copyFrom 32 = .ok (.istore_n 2, 1) := by decide +kernel
theorem dX0_copyFrom_33 : decode cX0_copyFrom 33 = .ok (.iload_n 2, 1) := by decide +kernel
theorem dX0_copyFrom_34 : decode cX0_copyFrom 34 = .ok (.bipush 16, 2) := by decide +kernel
theorem dX0_copyFrom_36 : decode cX0_copyFrom 36 = .ok (.if_icmp .ge 45, 3) := by decide +kernel
theorem dX0_copyFrom_39 : decode cX0_copyFrom 39 = .ok (.aload_n 0, 1) := by decide +kernel
theorem dX0_copyFrom_40 : decode cX0_copyFrom 40 = .ok (.getfield 20, 3) := by decide +kernel
theorem dX0_copyFrom_43 : decode cX0_copyFrom 43 = .ok (.iload_n 2, 1) := by decide +kernel
theorem dX0_copyFrom_44 : decode cX0_copyFrom 44 = .ok (.aload_n 1, 1) := by decide +kernel
theorem dX0_copyFrom_45 : decode cX0_copyFrom 45 = .ok (.getfield 20, 3) := by decide +kernel
theorem dX0_copyFrom_48 : decode cX0_copyFrom 48 = .ok (.iload_n 2, 1) := by decide +kernel
theorem dX0_copyFrom_49 : decode cX0_copyFrom 49 = .ok (.iaload, 1) := by decide +kernel
theorem dX0_copyFrom_50 : decode cX0_copyFrom 50 = .ok (.iastore, 1) := by decide +kernel
theorem dX0_copyFrom_51 : decode cX0_copyFrom 51 = .ok (.aload_n 0, 1) := by decide +kernel
theorem dX0_copyFrom_52 : decode cX0_copyFrom 52 = .ok (.getfield 23, 3) := by decide +kernel
theorem dX0_copyFrom_55 : decode cX0_copyFrom 55 = .ok (.iload_n 2, 1) := by decide +kernel
theorem dX0_copyFrom_56 : decode cX0_copyFrom 56 = .ok (.aload_n 1, 1) := by decide +kernel
theorem dX0_copyFrom_57 : decode cX0_copyFrom 57 = .ok (.getfield 23, 3) := by decide +kernel
theorem dX0_copyFrom_60 : decode cX0_copyFrom 60 = .ok (.iload_n 2, 1) := by decide +kernel
theorem dX0_copyFrom_61 : decode cX0_copyFrom 61 = .ok (.iaload, 1) := by decide +kernel
theorem dX0_copyFrom_62 : decode cX0_copyFrom 62 = .ok (.iastore, 1) := by decide +kernel
theorem dX0_copyFrom_63 : decode cX0_copyFrom 63 = .ok (.aload_n 0, 1) := by decide +kernel
theorem dX0_copyFrom_64 : decode cX0_copyFrom 64 = .ok (.getfield 26, 3) := by decide +kernel
theorem dX0_copyFrom_67 : decode cX0_copyFrom 67 = .ok (.iload_n 2, 1) := by decide +kernel
theorem dX0_copyFrom_68 : decode cX0_copyFrom 68 = .ok (.aload_n 1, 1) := by decide +kernel
theorem dX0_copyFrom_69 : decode cX0_copyFrom 69 = .ok (.getfield 26, 3) := by decide +kernel
theorem dX0_copyFrom_72 : decode cX0_copyFrom 72 = .ok (.iload_n 2, 1) := by decide +kernel
theorem dX0_copyFrom_73 : decode cX0_copyFrom 73 = .ok (.iaload, 1) := by decide +kernel
theorem dX0_copyFrom_74 : decode cX0_copyFrom 74 = .ok (.iastore, 1) := by decide +kernel
theorem dX0_copyFrom_75 : decode cX0_copyFrom 75 = .ok (.iinc 2 1, 3) := by decide +kernel
theorem dX0_copyFrom_78 : decode cX0_copyFrom 78 = .ok (.goto (-45), 3) := by decide +kernel
theorem dX0_copyFrom_81 : decode cX0_copyFrom 81 = .ok (.aload_n 0, 1) := by decide +kernel
theorem dX0_copyFrom_82 : decode cX0_copyFrom 82 = .ok (.aload_n 1, 1) := by decide +kernel
theorem dX0_copyFrom_83 : decode cX0_copyFrom 83 = .ok (.getfield 29, 3) := by decide +kernel
theorem dX0_copyFrom_86 : decode cX0_copyFrom 86 = .ok (.putfield 29, 3) := by decide +kernel
theorem dX0_copyFrom_89 : decode cX0_copyFrom 89 = .ok (.aload_n 0, 1) := by decide +kernel
theorem dX0_copyFrom_90 : decode cX0_copyFrom 90 = .ok (.aload_n 1, 1) := by decide +kernel
theorem dX0_copyFrom_91 : decode cX0_copyFrom 91 = .ok (.getfield 33, 3) := by decide +kernel
theorem dX0_copyFrom_94 : decode cX0_copyFrom 94 = .ok (.putfield 33, 3) := by decide +kernel
theorem dX0_copyFrom_97 : decode cX0_copyFrom 97 = .ok (.aload_n 0, 1) := by decide +kernel
theorem dX0_copyFrom_98 : decode cX0_copyFrom 98 = .ok (.aload_n 1, 1) := by decide +kernel
theorem dX0_copyFrom_99 : decode cX0_copyFrom 99 = .ok (.getfield 36, 3) := by decide +kernel
theorem dX0_copyFrom_102 : decode cX0_copyFrom 102 = .ok (.putfield 36, 3) := by decide +kernel
theorem dX0_copyFrom_105 : decode cX0_copyFrom 105 = .ok (.aload_n 0, 1) := by decide +kernel
theorem dX0_copyFrom_106 : decode cX0_copyFrom 106 = .ok (.aload_n 1, 1) := by decide +kernel
theorem dX0_copyFrom_107 : decode cX0_copyFrom 107 = .ok (.getfield 39, 3) := by decide +kernel
theorem dX0_copyFrom_110 : decode cX0_copyFrom 110 = .ok (.putfield 39, 3) := by decide +kernel
theorem dX0_copyFrom_113 : decode cX0_copyFrom 113 = .ok (.return_, 1) := by decide +kernel
theorem dX0_copyDreads_0 : decode cX0_copyDreads 0 = .ok (.iconst 0, 1) := by decide +kernel
theorem dX0_copyDreads_1 : decode cX0_copyDreads 1 = .ok (.istore_n 2, 1) := by decide +kernel
theorem dX0_copyDreads_2 : decode cX0_copyDreads 2 = .ok (.iload_n 2, 1) := by decide +kernel
theorem dX0_copyDreads_3 : decode cX0_copyDreads 3 = .ok (.bipush 12, 2) := by decide +kernel
theorem dX0_copyDreads_5 : decode cX0_copyDreads 5 = .ok (.if_icmp .ge 39, 3) := by decide +kernel
theorem dX0_copyDreads_8 : decode cX0_copyDreads 8 = .ok (.iconst 0, 1) := by decide +kernel
theorem dX0_copyDreads_9 : decode cX0_copyDreads 9 = .ok (.istore_n 3, 1) := by decide +kernel
theorem dX0_copyDreads_10 : decode cX0_copyDreads 10 = .ok (.iload_n 3, 1) := by decide +kernel
theorem dX0_copyDreads_11 : decode cX0_copyDreads 11 = .ok (.bipush 16, 2) := by decide +kernel
theorem dX0_copyDreads_13 : decode cX0_copyDreads 13 = .ok (.if_icmp .ge 25, 3) := by decide +kernel
theorem dX0_copyDreads_16 : decode cX0_copyDreads 16 = .ok (.aload_n 0, 1) := by decide +kernel
theorem dX0_copyDreads_17 : decode cX0_copyDreads 17 = .ok (.getfield 11, 3) := by decide +kernel
theorem dX0_copyDreads_20 : decode cX0_copyDreads 20 = .ok (.iload_n 2, 1) := by decide +kernel
theorem dX0_copyDreads_21 : decode cX0_copyDreads 21 = .ok (.aaload, 1) := by decide +kernel
theorem dX0_copyDreads_22 : decode cX0_copyDreads 22 = .ok (.iload_n 3, 1) := by decide +kernel
theorem dX0_copyDreads_23 : decode cX0_copyDreads 23 = .ok (.aload_n 1, 1) := by decide +kernel
theorem dX0_copyDreads_24 : decode cX0_copyDreads 24 = .ok (.getfield 11, 3) := by decide +kernel
theorem dX0_copyDreads_27 : decode cX0_copyDreads 27 = .ok (.iload_n 2, 1) := by decide +kernel
theorem dX0_copyDreads_28 : decode cX0_copyDreads 28 = .ok (.aaload, 1) := by decide +kernel
theorem dX0_copyDreads_29 : decode cX0_copyDreads 29 = .ok (.iload_n 3, 1) := by decide +kernel
theorem dX0_copyDreads_30 : decode cX0_copyDreads 30 = .ok (.iaload, 1) := by decide +kernel
theorem dX0_copyDreads_31 : decode cX0_copyDreads 31 = .ok (.iastore, 1) := by decide +kernel
theorem dX0_copyDreads_32 : decode cX0_copyDreads 32 = .ok (.iinc 3 1, 3) := by decide +kernel
theorem dX0_copyDreads_35 : decode cX0_copyDreads 35 = .ok (.goto (-25), 3) := by decide +kernel
theorem dX0_copyDreads_38 : decode cX0_copyDreads 38 = .ok (.iinc 2 1, 3) := by decide +kernel
theorem dX0_copyDreads_41 : decode cX0_copyDreads 41 = .ok (.goto (-39), 3) := by decide +kernel
theorem dX0_copyDreads_44 : decode cX0_copyDreads 44 = .ok (.return_, 1) := by decide +kernel
theorem dX1_init_0 : decode cX1_init 0 = .ok (.aload_n 0, 1) := by decide +kernel
theorem dX1_init_1 : decode cX1_init 1 = .ok (.invokespecial 3, 3) := by decide +kernel
theorem dX1_init_4 : decode cX1_init 4 = .ok (.aload_n 0, 1) := by decide +kernel
theorem dX1_init_5 : decode cX1_init 5 = .ok (.bipush 12, 2) := by decide +kernel
theorem dX1_init_7 : decode cX1_init 7 = .ok (.newarray .int, 2) := by decide +kernel
theorem dX1_init_9 : decode cX1_init 9 = .ok (.putfield 9, 3) := by decide +kernel
theorem dX1_init_12 : decode cX1_init 12 = .ok (.aload_n 0, 1) := by decide +kernel
theorem dX1_init_13 : decode cX1_init 13 = .ok (.sipush 4096, 3) := by decide +kernel
theorem dX1_init_16 : decode cX1_init 16 = .ok (.newarray .int, 2) := by decide +kernel
theorem dX1_init_18 : decode cX1_init 18 = .ok (.putfield 15, 3) := by decide +kernel
theorem dX1_init_21 : decode cX1_init 21 = .ok (.return_, 1) := by decide +kernel
theorem dX1_beside_0 : decode cX1_beside 0 = .ok (.iconst 0, 1) := by decide +kernel
theorem dX1_beside_1 : decode cX1_beside 1 = .ok (.istore_n 2, 1) := by decide +kernel
theorem dX1_beside_2 : decode cX1_beside 2 = .ok (.iconst 0, 1) := by decide +kernel
theorem dX1_beside_3 : decode cX1_beside 3 = .ok (.istore_n 3, 1) := by decide +kernel
theorem dX1_beside_4 : decode cX1_beside 4 = .ok (.iload_n 3, 1) := by decide +kernel
theorem dX1_beside_5 : decode cX1_beside 5 = .ok (.aload_n 0, 1) := by decide +kernel
theorem dX1_beside_6 : decode cX1_beside 6 = .ok (.arraylength, 1) := by decide +kernel
theorem dX1_beside_7 : decode cX1_beside 7 = .ok (.if_icmp .ge 23, 3) := by decide +kernel
theorem dX1_beside_10 : decode cX1_beside 10 = .ok (.iload_n 1, 1) := by decide +kernel
theorem dX1_beside_11 : decode cX1_beside 11 = .ok (.iload_n 3, 1) := by decide +kernel
theorem dX1_beside_12 : decode cX1_beside 12 = .ok (.invokestatic 18, 3) := by decide +kernel
theorem dX1_beside_15 : decode cX1_beside 15 = .ok (.ifCond .eq 9, 3) := by decide +kernel
theorem dX1_beside_18 : decode cX1_beside 18 = .ok (.iload_n 2, 1) := by decide +kernel
theorem dX1_beside_19 : decode cX1_beside 19 = .ok (.aload_n 0, 1) := by decide +kernel
theorem dX1_beside_20 : decode cX1_beside 20 = .ok (.iload_n 3, 1) := by decide +kernel
theorem dX1_beside_21 : decode cX1_beside 21 = .ok (.iaload, 1) := by decide +kernel
theorem dX1_beside_22 : decode cX1_beside 22 = .ok (.ior, 1) := by decide +kernel
theorem dX1_beside_23 : decode cX1_beside 23 = .ok (.istore_n 2, 1) := by decide +kernel
theorem dX1_beside_24 : decode cX1_beside 24 = .ok (.iinc 3 1, 3) := by decide +kernel
theorem dX1_beside_27 : decode cX1_beside 27 = .ok (.goto (-23), 3) := by decide +kernel
theorem dX1_beside_30 : decode cX1_beside 30 = .ok (.iload_n 2, 1) := by decide +kernel
theorem dX1_beside_31 : decode cX1_beside 31 = .ok (.ireturn, 1) := by decide +kernel
theorem dX1_reached_0 : decode cX1_reached 0 = .ok (.iload_n 1, 1) := by decide +kernel
theorem dX1_reached_1 : decode cX1_reached 1 = .ok (.iload_n 2, 1) := by decide +kernel
theorem dX1_reached_2 : decode cX1_reached 2 = .ok (.iand, 1) := by decide +kernel
theorem dX1_reached_3 : decode cX1_reached 3 = .ok (.istore_n 3, 1) := by decide +kernel
theorem dX1_reached_4 : decode cX1_reached 4 = .ok (.iconst 0, 1) := by decide +kernel
theorem dX1_reached_5 : decode cX1_reached 5 = .ok (.istore 4, 2) := by decide +kernel
theorem dX1_reached_7 : decode cX1_reached 7 = .ok (.iload 4, 2) := by decide +kernel
theorem dX1_reached_9 : decode cX1_reached 9 = .ok (.bipush 12, 2) := by decide +kernel
theorem dX1_reached_11 : decode cX1_reached 11 = .ok (.if_icmp .ge 19, 3) := by decide +kernel
theorem dX1_reached_14 : decode cX1_reached 14 = .ok (.iload_n 3, 1) := by decide +kernel
theorem dX1_reached_15 : decode cX1_reached 15 = .ok (.aload_n 0, 1) := by decide +kernel
theorem dX1_reached_16 : decode cX1_reached 16 = .ok (.iload_n 3, 1) := by decide +kernel
theorem dX1_reached_17 : decode cX1_reached 17 = .ok (.invokestatic 22, 3) := by decide +kernel
theorem dX1_reached_20 : decode cX1_reached 20 = .ok (.iload_n 2, 1) := by decide +kernel
theorem dX1_reached_21 : decode cX1_reached 21 = .ok (.iand, 1) := by decide +kernel
theorem dX1_reached_22 : decode cX1_reached 22 = .ok (.ior, 1) := by decide +kernel
theorem dX1_reached_23 : decode cX1_reached 23 = .ok (.istore_n 3, 1) := by decide +kernel
theorem dX1_reached_24 : decode cX1_reached 24 = .ok (.iinc 4 1, 3) := by decide +kernel
theorem dX1_reached_27 : decode cX1_reached 27 = .ok (.goto (-20), 3) := by decide +kernel
theorem dX1_reached_30 : decode cX1_reached 30 = .ok (.iload_n 3, 1) := by decide +kernel
theorem dX1_reached_31 : decode cX1_reached 31 = .ok (.ireturn, 1) := by decide +kernel
theorem dX1_holdersTogether_0 : decode cX1_holdersTogether 0 = .ok (.iconst 0, 1) := by decide +kernel
theorem dX1_holdersTogether_1 : decode cX1_holdersTogether 1 = .ok (.istore_n 1, 1) := by decide +kernel
theorem dX1_holdersTogether_2 : decode cX1_holdersTogether 2 = .ok (.iconst 0, 1) := by decide +kernel
theorem dX1_holdersTogether_3 : decode cX1_holdersTogether 3 = .ok (.istore_n 2, 1) := by decide +kernel
theorem dX1_holdersTogether_4 : decode cX1_holdersTogether 4 = .ok (.iload_n 2, 1) := by decide +kernel
theorem dX1_holdersTogether_5 : decode cX1_holdersTogether 5 = .ok (.bipush 12, 2) := by decide +kernel
theorem dX1_holdersTogether_7 : decode cX1_holdersTogether 7 = .ok (.if_icmp .ge 61, 3) := by decide +kernel
theorem dX1_holdersTogether_10 : decode cX1_holdersTogether 10 = .ok (.aload_n 0, 1) := by decide +kernel
theorem dX1_holdersTogether_11 : decode cX1_holdersTogether 11 = .ok (.getfield 26, 3) := by decide +kernel
theorem dX1_holdersTogether_14 : decode cX1_holdersTogether 14 = .ok (.iconst 1, 1) := by decide +kernel
theorem dX1_holdersTogether_15 : decode cX1_holdersTogether 15 = .ok (.iload_n 2, 1) := by decide +kernel
theorem dX1_holdersTogether_16 : decode cX1_holdersTogether 16 = .ok (.ishl, 1) := by decide +kernel
theorem dX1_holdersTogether_17 : decode cX1_holdersTogether 17 = .ok (.iconst (-1), 1) := by decide +kernel
theorem dX1_holdersTogether_18 : decode cX1_holdersTogether 18 = .ok (.ixor, 1) := by decide +kernel
theorem dX1_holdersTogether_19 : decode cX1_holdersTogether 19 = .ok (.iand, 1) := by decide +kernel
theorem dX1_holdersTogether_20 : decode cX1_holdersTogether 20 = .ok (.istore_n 3, 1) := by decide +kernel
theorem dX1_holdersTogether_21 : decode cX1_holdersTogether 21 = .ok (.aload_n 0, 1) := by decide +kernel
theorem dX1_holdersTogether_22 : decode cX1_holdersTogether 22 = .ok (.iload_n 2, 1) := by decide +kernel
theorem dX1_holdersTogether_23 : decode cX1_holdersTogether 23 = .ok (.invokevirtual 32, 3) := by decide +kernel
theorem dX1_holdersTogether_26 : decode cX1_holdersTogether 26 = .ok (.iload_n 3, 1) := by decide +kernel
theorem dX1_holdersTogether_27 : decode cX1_holdersTogether 27 = .ok (.iand, 1) := by decide +kernel
theorem dX1_holdersTogether_28 : decode cX1_holdersTogether 28 = .ok (.istore 4, 2) := by decide +kernel
theorem dX1_holdersTogether_30 : decode cX1_holdersTogether 30 = .ok (.iload 4, 2) := by decide +kernel
theorem dX1_holdersTogether_32 : decode cX1_holdersTogether 32 = .ok (.iload 4, 2) := by decide +kernel
theorem dX1_holdersTogether_34 : decode cX1_holdersTogether 34 = .ok (.ineg, 1) := by decide +kernel
theorem dX1_holdersTogether_35 : decode cX1_holdersTogether 35 = .ok (.iand, 1) := by decide +kernel
theorem dX1_holdersTogether_36 : decode cX1_holdersTogether 36 = .ok (.istore 5, 2) := by decide +kernel
theorem dX1_holdersTogether_38 : decode cX1_holdersTogether 38 = .ok (.iload 4, 2) := by decide +kernel
theorem dX1_holdersTogether_40 : decode cX1_holdersTogether 40 = .ok (.aload_n 0, 1) := by decide +kernel
theorem dX1_holdersTogether_41 : decode cX1_holdersTogether 41 = .ok (.getfield 36, 3) := by decide +kernel
theorem dX1_holdersTogether_44 : decode cX1_holdersTogether 44 = .ok (.iload 5, 2) := by decide +kernel
theorem dX1_holdersTogether_46 : decode cX1_holdersTogether 46 = .ok (.iload_n 3, 1) := by decide +kernel
theorem dX1_holdersTogether_47 : decode cX1_holdersTogether 47 = .ok (.invokestatic 39, 3) := by decide +kernel
theorem dX1_holdersTogether_50 : decode cX1_holdersTogether 50 = .ok (.iconst (-1), 1) := by decide +kernel
theorem dX1_holdersTogether_51 : decode cX1_holdersTogether 51 = .ok (.ixor, 1) := by decide +kernel
theorem dX1_holdersTogether_52 : decode cX1_holdersTogether 52 = .ok (.iand, 1) := by decide +kernel
theorem dX1_holdersTogether_53 : decode cX1_holdersTogether 53 = .ok (.ifCond .eq 9, 3) := by decide +kernel
theorem dX1_holdersTogether_56 : decode cX1_holdersTogether 56 = .ok (.iload_n 1, 1) := by decide +kernel
theorem dX1_holdersTogether_57 : decode cX1_holdersTogether 57 = .ok (.iconst 1, 1) := by decide +kernel
theorem dX1_holdersTogether_58 : decode cX1_holdersTogether 58 = .ok (.iload_n 2, 1) := by decide +kernel
theorem dX1_holdersTogether_59 : decode cX1_holdersTogether 59 = .ok (.ishl, 1) := by decide +kernel
theorem dX1_holdersTogether_60 : decode cX1_holdersTogether 60 = .ok (.ior, 1) := by decide +kernel
theorem dX1_holdersTogether_61 : decode cX1_holdersTogether 61 = .ok (.istore_n 1, 1) := by decide +kernel
theorem dX1_holdersTogether_62 : decode cX1_holdersTogether 62 = .ok (.iinc 2 1, 3) := by decide +kernel
theorem dX1_holdersTogether_65 : decode cX1_holdersTogether 65 = .ok (.goto (-61), 3) := by decide +kernel
theorem dX1_holdersTogether_68 : decode cX1_holdersTogether 68 = .ok (.iload_n 1, 1) := by decide +kernel
theorem dX1_holdersTogether_69 : decode cX1_holdersTogether 69 = .ok (.ireturn, 1) := by decide +kernel
theorem dX1_grownFashion_0 : decode cX1_grownFashion 0 = .ok (.iload_n 1, 1) := by decide +kernel
theorem dX1_grownFashion_1 : decode cX1_grownFashion 1 = .ok (.istore_n 3, 1) := by decide +kernel
theorem dX1_grownFashion_2 : decode cX1_grownFashion 2 = .ok (.iconst 0, 1) := by decide +kernel
theorem dX1_grownFashion_3 : decode cX1_grownFashion 3 = .ok (.istore 4, 2) := by decide +kernel
theorem dX1_grownFashion_5 : decode cX1_grownFashion 5 = .ok (.iload 4, 2) := by decide +kernel
theorem dX1_grownFashion_7 : decode cX1_grownFashion 7 = .ok (.bipush 12, 2) := by decide +kernel
theorem dX1_grownFashion_9 : decode cX1_grownFashion 9 = .ok (.if_icmp .ge 31, 3) := by decide +kernel
theorem dX1_grownFashion_12 : decode cX1_grownFashion 12 = .ok (.aload_n 0, 1) := by decide +kernel
theorem dX1_grownFashion_13 : decode cX1_grownFashion 13 = .ok (.iload 4, 2) := by decide +kernel
theorem dX1_grownFashion_15 : decode cX1_grownFashion 15 = .ok (.invokevirtual 32, 3) := by decide +kernel
theorem dX1_grownFashion_18 : decode cX1_grownFashion 18 = .ok (.iload_n 1, 1) := by decide +kernel
theorem dX1_grownFashion_19 : decode cX1_grownFashion 19 = .ok (.iand, 1) := by decide +kernel
theorem dX1_grownFashion_20 : decode cX1_grownFashion 20 = .ok (.invokestatic 43, 3) := by decide +kernel
theorem dX1_grownFashion_23 : decode cX1_grownFashion 23 = .ok (.iload_n 2, 1) := by decide +kernel
theorem dX1_grownFashion_24 : decode cX1_grownFashion 24 = .ok (.if_icmp .lt 10, 3) := by decide +kernel
theorem dX1_grownFashion_27 : decode cX1_grownFashion 27 = .ok (.iload_n 3, 1) := by decide +kernel
theorem dX1_grownFashion_28 : decode cX1_grownFashion 28 = .ok (.iconst 1, 1) := by decide +kernel
theorem dX1_grownFashion_29 : decode cX1_grownFashion 29 = .ok (.iload 4, 2) := by decide +kernel
theorem dX1_grownFashion_31 : decode cX1_grownFashion 31 = .ok (.ishl, 1) := by decide +kernel
theorem dX1_grownFashion_32 : decode cX1_grownFashion 32 = .ok (.ior, 1) := by decide +kernel
theorem dX1_grownFashion_33 : decode cX1_grownFashion 33 = .ok (.istore_n 3, 1) := by decide +kernel
theorem dX1_grownFashion_34 : decode cX1_grownFashion 34 = .ok (.iinc 4 1, 3) := by decide +kernel
theorem dX1_grownFashion_37 : decode cX1_grownFashion 37 = .ok (.goto (-32), 3) := by decide +kernel
theorem dX1_grownFashion_40 : decode cX1_grownFashion 40 = .ok (.iload_n 3, 1) := by decide +kernel
theorem dX1_grownFashion_41 : decode cX1_grownFashion 41 = .ok (.ireturn, 1) := by decide +kernel
theorem dX1_linkAlike_0 : decode cX1_linkAlike 0 = .ok (.iconst 0, 1) := by decide +kernel
theorem dX1_linkAlike_1 : decode cX1_linkAlike 1 = .ok (.istore_n 3, 1) := by decide +kernel
theorem dX1_linkAlike_2 : decode cX1_linkAlike 2 = .ok (.iload_n 3, 1) := by decide +kernel
theorem dX1_linkAlike_3 : decode cX1_linkAlike 3 = .ok (.bipush 12, 2) := by decide +kernel
theorem dX1_linkAlike_5 : decode cX1_linkAlike 5 = .ok (.if_icmp .ge 73, 3) := by decide +kernel
theorem dX1_linkAlike_8 : decode cX1_linkAlike 8 = .ok (.aload_n 0, 1) := by decide +kernel
theorem dX1_linkAlike_9 : decode cX1_linkAlike 9 = .ok (.getfield 9, 3) := by decide +kernel
theorem dX1_linkAlike_12 : decode cX1_linkAlike 12 = .ok (.iload_n 3, 1) := by decide +kernel
theorem dX1_linkAlike_13 : decode cX1_linkAlike 13 = .ok (.iconst 0, 1) := by decide +kernel
theorem dX1_linkAlike_14 : decode cX1_linkAlike 14 = .ok (.iastore, 1) := by decide +kernel
theorem dX1_linkAlike_15 : decode cX1_linkAlike 15 = .ok (.iconst 0, 1) := by decide +kernel
theorem dX1_linkAlike_16 : decode cX1_linkAlike 16 = .ok (.istore 4, 2) := by decide +kernel
theorem dX1_linkAlike_18 : decode cX1_linkAlike 18 = .ok (.iload 4, 2) := by decide +kernel
theorem dX1_linkAlike_20 : decode cX1_linkAlike 20 = .ok (.bipush 12, 2) := by decide +kernel
theorem dX1_linkAlike_22 : decode cX1_linkAlike 22 = .ok (.if_icmp .ge 50, 3) := by decide +kernel
theorem dX1_linkAlike_25 : decode cX1_linkAlike 25 = .ok (.aload_n 1, 1) := by decide +kernel
theorem dX1_linkAlike_26 : decode cX1_linkAlike 26 = .ok (.iload_n 3, 1) := by decide +kernel
theorem dX1_linkAlike_27 : decode cX1_linkAlike 27 = .ok (.invokevirtual 57, 3) := by decide +kernel
theorem dX1_linkAlike_30 : decode cX1_linkAlike 30 = .ok (.ifCond .eq 36, 3) := by decide +kernel
theorem dX1_linkAlike_33 : decode cX1_linkAlike 33 = .ok (.aload_n 1, 1) := by decide +kernel
theorem dX1_linkAlike_34 : decode cX1_linkAlike 34 = .ok (.iload 4, 2) := by decide +kernel
theorem dX1_linkAlike_36 : decode cX1_linkAlike 36 = .ok (.invokevirtual 57, 3) := by decide +kernel
theorem dX1_linkAlike_39 : decode cX1_linkAlike 39 = .ok (.ifCond .eq 27, 3) := by decide +kernel
theorem dX1_linkAlike_42 : decode cX1_linkAlike 42 = .ok (.aload_n 1, 1) := by decide +kernel
theorem dX1_linkAlike_43 : decode cX1_linkAlike 43 = .ok (.iload_n 3, 1) := by decide +kernel
theorem dX1_linkAlike_44 : decode cX1_linkAlike 44 = .ok (.iload 4, 2) := by decide +kernel
theorem dX1_linkAlike_46 : decode cX1_linkAlike 46 = .ok (.invokestatic 61, 3) := by decide +kernel
theorem dX1_linkAlike_49 : decode cX1_linkAlike 49 = .ok (.iload_n 2, 1) := by decide +kernel
theorem dX1_linkAlike_50 : decode cX1_linkAlike 50 = .ok (.if_icmp .gt 16, 3) := by decide +kernel
theorem dX1_linkAlike_53 : decode cX1_linkAlike 53 = .ok (.aload_n 0, 1) := by decide +kernel
theorem dX1_linkAlike_54 : decode cX1_linkAlike 54 = .ok (.getfield 9, 3) := by decide +kernel
theorem dX1_linkAlike_57 : decode cX1_linkAlike 57 = .ok (.iload_n 3, 1) := by decide +kernel
theorem dX1_linkAlike_58 : decode cX1_linkAlike 58 = .ok (.dup2, 1) := by decide +kernel
theorem dX1_linkAlike_59 : decode cX1_linkAlike 59 = .ok (.iaload, 1) := by decide +kernel
theorem dX1_linkAlike_60 : decode cX1_linkAlike 60 = .ok (.iconst 1, 1) := by decide +kernel
theorem dX1_linkAlike_61 : decode cX1_linkAlike 61 = .ok (.iload 4, 2) := by decide +kernel
theorem dX1_linkAlike_63 : decode cX1_linkAlike 63 = .ok (.ishl, 1) := by decide +kernel
theorem dX1_linkAlike_64 : decode cX1_linkAlike 64 = .ok (.ior, 1) := by decide +kernel
theorem dX1_linkAlike_65 : decode cX1_linkAlike 65 = .ok (.iastore, 1) := by decide +kernel
theorem dX1_linkAlike_66 : decode cX1_linkAlike 66 = .ok (.iinc 4 1, 3) := by decide +kernel
theorem dX1_linkAlike_69 : decode cX1_linkAlike 69 = .ok (.goto (-51), 3) := by decide +kernel
theorem dX1_linkAlike_72 : decode cX1_linkAlike 72 = .ok (.iinc 3 1, 3) := by decide +kernel
theorem dX1_linkAlike_75 : decode cX1_linkAlike 75 = .ok (.goto (-73), 3) := by decide +kernel
theorem dX1_linkAlike_78 : decode cX1_linkAlike 78 = .ok (.return_, 1) := by decide +kernel
theorem dX1_circlesOf_0 : decode cX1_circlesOf 0 = .ok (.iconst 0, 1) := by decide +kernel
theorem dX1_circlesOf_1 : decode cX1_circlesOf 1 = .ok (.istore_n 2, 1) := by decide +kernel
theorem dX1_circlesOf_2 : decode cX1_circlesOf 2 = .ok (.iload_n 1, 1) := by decide +kernel
theorem dX1_circlesOf_3 : decode cX1_circlesOf 3 = .ok (.istore_n 3, 1) := by decide +kernel
theorem dX1_circlesOf_4 : decode cX1_circlesOf 4 = .ok (.iconst 0, 1) := by decide +kernel
theorem dX1_circlesOf_5 : decode cX1_circlesOf 5 = .ok (.istore 4, 2) := by decide +kernel
theorem dX1_circlesOf_7 : decode cX1_circlesOf 7 = .ok (.iload 4, 2) := by decide +kernel
theorem dX1_circlesOf_9 : decode cX1_circlesOf 9 = .ok (.bipush 12, 2) := by decide +kernel
theorem dX1_circlesOf_11 : decode cX1_circlesOf 11 = .ok (.if_icmp .ge 33, 3) := by decide +kernel
theorem dX1_circlesOf_14 : decode cX1_circlesOf 14 = .ok (.iload_n 3, 1) := by decide +kernel
theorem dX1_circlesOf_15 : decode cX1_circlesOf 15 = .ok (.iload 4, 2) := by decide +kernel
theorem dX1_circlesOf_17 : decode cX1_circlesOf 17 = .ok (.invokestatic 18, 3) := by decide +kernel
theorem dX1_circlesOf_20 : decode cX1_circlesOf 20 = .ok (.ifCond .eq 18, 3) := by decide +kernel
theorem dX1_circlesOf_23 : decode cX1_circlesOf 23 = .ok (.iinc 2 1, 3) := by decide +kernel
theorem dX1_circlesOf_26 : decode cX1_circlesOf 26 = .ok (.iload_n 3, 1) := by decide +kernel
theorem dX1_circlesOf_27 : decode cX1_circlesOf 27 = .ok (.aload_n 0, 1) := by decide +kernel
theorem dX1_circlesOf_28 : decode cX1_circlesOf 28 = .ok (.iload 4, 2) := by decide +kernel
theorem dX1_circlesOf_30 : decode cX1_circlesOf 30 = .ok (.iload_n 1, 1) := by decide +kernel
theorem dX1_circlesOf_31 : decode cX1_circlesOf 31 = .ok (.invokevirtual 65, 3) := by decide +kernel
theorem dX1_circlesOf_34 : decode cX1_circlesOf 34 = .ok (.iconst (-1), 1) := by decide +kernel
theorem dX1_circlesOf_35 : decode cX1_circlesOf 35 = .ok (.ixor, 1) := by decide +kernel
theorem dX1_circlesOf_36 : decode cX1_circlesOf 36 = .ok (.iand, 1) := by decide +kernel
theorem dX1_circlesOf_37 : decode cX1_circlesOf 37 = .ok (.istore_n 3, 1) := by decide +kernel
theorem dX1_circlesOf_38 : decode cX1_circlesOf 38 = .ok (.iinc 4 1, 3) := by decide +kernel
theorem dX1_circlesOf_41 : decode cX1_circlesOf 41 = .ok (.goto (-34), 3) := by decide +kernel
theorem dX1_circlesOf_44 : decode cX1_circlesOf 44 = .ok (.iload_n 2, 1) := by decide +kernel
theorem dX1_circlesOf_45 : decode cX1_circlesOf 45 = .ok (.ireturn, 1) := by decide +kernel
theorem dX1_mostCouples_0 : decode cX1_mostCouples 0 = .ok (.aload_n 0, 1) := by decide +kernel
theorem dX1_mostCouples_1 : decode cX1_mostCouples 1 = .ok (.aload_n 1, 1) := by decide +kernel
theorem dX1_mostCouples_2 : decode cX1_mostCouples 2 = .ok (.iload_n 2, 1) := by decide +kernel
theorem dX1_mostCouples_3 : decode cX1_mostCouples 3 = .ok (.invokevirtual 68, 3) := by decide +kernel
theorem dX1_mostCouples_6 : decode cX1_mostCouples 6 = .ok (.aload_n 0, 1) := by decide +kernel
theorem dX1_mostCouples_7 : decode cX1_mostCouples 7 = .ok (.getfield 15, 3) := by decide +kernel
theorem dX1_mostCouples_10 : decode cX1_mostCouples 10 = .ok (.iconst 0, 1) := by decide +kernel
theorem dX1_mostCouples_11 : decode cX1_mostCouples 11 = .ok (.iconst 0, 1) := by decide +kernel
theorem dX1_mostCouples_12 : decode cX1_mostCouples 12 = .ok (.iastore, 1) := by decide +kernel
theorem dX1_mostCouples_13 : decode cX1_mostCouples 13 = .ok (.iconst 0, 1) := by decide +kernel
theorem dX1_mostCouples_14 : decode cX1_mostCouples 14 = .ok (.istore_n 3, 1) := by decide +kernel
theorem dX1_mostCouples_15 : decode cX1_mostCouples 15 = .ok (.iload_n 3, 1) := by decide +kernel
theorem dX1_mostCouples_16 : decode cX1_mostCouples 16 = .ok (.bipush 12, 2) := by decide +kernel
theorem dX1_mostCouples_18 : decode cX1_mostCouples 18 = .ok (.if_icmp .ge 44, 3) := by decide +kernel
theorem dX1_mostCouples_21 : decode cX1_mostCouples 21 = .ok (.iconst 0, 1) := by decide +kernel
theorem dX1_mostCouples_22 : decode cX1_mostCouples 22 = .ok (.istore 4, 2) := by decide +kernel
theorem dX1_mostCouples_24 : decode cX1_mostCouples 24 = .ok (.iload 4, 2) := by decide +kernel
theorem dX1_mostCouples_26 : decode cX1_mostCouples 26 = .ok (.iconst 1, 1) := by decide +kernel
theorem dX1_mostCouples_27 : decode cX1_mostCouples 27 = .ok (.iload_n 3, 1) := by decide +kernel
theorem dX1_mostCouples_28 : decode cX1_mostCouples 28 = .ok (.ishl, 1) := by decide +kernel
theorem dX1_mostCouples_29 : decode cX1_mostCouples 29 = .ok (.if_icmp .ge 27, 3) := by decide +kernel
theorem dX1_mostCouples_32 : decode cX1_mostCouples 32 = .ok (.aload_n 0, 1) := by decide +kernel
theorem dX1_mostCouples_33 : decode cX1_mostCouples 33 = .ok (.getfield 15, 3) := by decide +kernel
theorem dX1_mostCouples_36 : decode cX1_mostCouples 36 = .ok (.iload 4, 2) := by decide +kernel
theorem dX1_mostCouples_38 : decode cX1_mostCouples 38 = .ok (.iconst 1, 1) := by decide +kernel
theorem dX1_mostCouples_39 : decode cX1_mostCouples 39 = .ok (.iload_n 3, 1) := by decide +kernel
theorem dX1_mostCouples_40 : decode cX1_mostCouples 40 = .ok (.ishl, 1) := by decide +kernel
theorem dX1_mostCouples_41 : decode cX1_mostCouples 41 = .ok (.ior, 1) := by decide +kernel
theorem dX1_mostCouples_42 : decode cX1_mostCouples 42 = .ok (.aload_n 0, 1) := by decide +kernel
theorem dX1_mostCouples_43 : decode cX1_mostCouples 43 = .ok (.iload_n 3, 1) := by decide +kernel
theorem dX1_mostCouples_44 : decode cX1_mostCouples 44 = .ok (.iload 4, 2) := by decide +kernel
theorem dX1_mostCouples_46 : decode cX1_mostCouples 46 = .ok (.invokevirtual 72, 3) := by decide +kernel
theorem dX1_mostCouples_49 : decode cX1_mostCouples 49 = .ok (.iastore, 1) := by decide +kernel
theorem dX1_mostCouples_50 : decode cX1_mostCouples 50 = .ok (.iinc 4 1, 3) := by decide +kernel
theorem dX1_mostCouples_53 : decode cX1_mostCouples 53 = .ok (.goto (-29), 3) := by decide +kernel
theorem dX1_mostCouples_56 : decode cX1_mostCouples 56 = .ok (.iinc 3 1, 3) := by decide +kernel
theorem dX1_mostCouples_59 : decode cX1_mostCouples 59 = .ok (.goto (-44), 3) := by decide +kernel
theorem dX1_mostCouples_62 : decode cX1_mostCouples 62 = .ok (.aload_n 0, 1) := by decide +kernel
theorem dX1_mostCouples_63 : decode cX1_mostCouples 63 = .ok (.getfield 15, 3) := by decide +kernel
theorem dX1_mostCouples_66 : decode cX1_mostCouples 66 = .ok (.aload_n 0, 1) := by decide +kernel
theorem dX1_mostCouples_67 : decode cX1_mostCouples 67 = .ok (.getfield 15, 3) := by decide +kernel
theorem dX1_mostCouples_70 : decode cX1_mostCouples 70 = .ok (.arraylength, 1) := by decide +kernel
theorem dX1_mostCouples_71 : decode cX1_mostCouples 71 = .ok (.iconst 1, 1) := by decide +kernel
theorem dX1_mostCouples_72 : decode cX1_mostCouples 72 = .ok (.isub, 1) := by decide +kernel
theorem dX1_mostCouples_73 : decode cX1_mostCouples 73 = .ok (.iaload, 1) := by decide +kernel
theorem dX1_mostCouples_74 : decode cX1_mostCouples 74 = .ok (.ireturn, 1) := by decide +kernel
theorem dX1_linkFellows_0 : decode cX1_linkFellows 0 = .ok (.iconst 0, 1) := by decide +kernel
theorem dX1_linkFellows_1 : decode cX1_linkFellows 1 = .ok (.istore_n 3, 1) := by decide +kernel
theorem dX1_linkFellows_2 : decode cX1_linkFellows 2 = .ok (.iload_n 3, 1) := by decide +kernel
theorem dX1_linkFellows_3 : decode cX1_linkFellows 3 = .ok (.bipush 12, 2) := by decide +kernel
theorem dX1_linkFellows_5 : decode cX1_linkFellows 5 = .ok (.if_icmp .ge 61, 3) := by decide +kernel
theorem dX1_linkFellows_8 : decode cX1_linkFellows 8 = .ok (.aload_n 0, 1) := by decide +kernel
theorem dX1_linkFellows_9 : decode cX1_linkFellows 9 = .ok (.getfield 9, 3) := by decide +kernel
theorem dX1_linkFellows_12 : decode cX1_linkFellows 12 = .ok (.iload_n 3, 1) := by decide +kernel
theorem dX1_linkFellows_13 : decode cX1_linkFellows 13 = .ok (.iconst 0, 1) := by decide +kernel
theorem dX1_linkFellows_14 : decode cX1_linkFellows 14 = .ok (.iastore, 1) := by decide +kernel
theorem dX1_linkFellows_15 : decode cX1_linkFellows 15 = .ok (.iconst 0, 1) := by decide +kernel
theorem dX1_linkFellows_16 : decode cX1_linkFellows 16 = .ok (.istore 4, 2) := by decide +kernel
theorem dX1_linkFellows_18 : decode cX1_linkFellows 18 = .ok (.iload 4, 2) := by decide +kernel
theorem dX1_linkFellows_20 : decode cX1_linkFellows 20 = .ok (.iload_n 3, 1) := by decide +kernel
theorem dX1_linkFellows_21 : decode cX1_linkFellows 21 = .ok (.if_icmp .ge 39, 3) := by decide +kernel
theorem dX1_linkFellows_24 : decode cX1_linkFellows 24 = .ok (.aload_n 1, 1) := by decide +kernel
theorem dX1_linkFellows_25 : decode cX1_linkFellows 25 = .ok (.iload_n 3, 1) := by decide +kernel
theorem dX1_linkFellows_26 : decode cX1_linkFellows 26 = .ok (.iload_n 2, 1) := by decide +kernel
theorem dX1_linkFellows_27 : decode cX1_linkFellows 27 = .ok (.invokevirtual 75, 3) := by decide +kernel
theorem dX1_linkFellows_30 : decode cX1_linkFellows 30 = .ok (.aload_n 1, 1) := by decide +kernel
theorem dX1_linkFellows_31 : decode cX1_linkFellows 31 = .ok (.iload 4, 2) := by decide +kernel
theorem dX1_linkFellows_33 : decode cX1_linkFellows 33 = .ok (.iload_n 2, 1) := by decide +kernel
theorem dX1_linkFellows_34 : decode cX1_linkFellows 34 = .ok (.invokevirtual 75, 3) := by decide +kernel
theorem dX1_linkFellows_37 : decode cX1_linkFellows 37 = .ok (.iand, 1) := by decide +kernel
theorem dX1_linkFellows_38 : decode cX1_linkFellows 38 = .ok (.ifCond .eq 16, 3) := by decide +kernel
theorem dX1_linkFellows_41 : decode cX1_linkFellows 41 = .ok (.aload_n 0, 1) := by decide +kernel
theorem dX1_linkFellows_42 : decode cX1_linkFellows 42 = .ok (.getfield 9, 3) := by decide +kernel
theorem dX1_linkFellows_45 : decode cX1_linkFellows 45 = .ok (.iload_n 3, 1) := by decide +kernel
theorem dX1_linkFellows_46 : decode cX1_linkFellows 46 = .ok (.dup2, 1) := by decide +kernel
theorem dX1_linkFellows_47 : decode cX1_linkFellows 47 = .ok (.iaload, 1) := by decide +kernel
theorem dX1_linkFellows_48 : decode cX1_linkFellows 48 = .ok (.iconst 1, 1) := by decide +kernel
theorem dX1_linkFellows_49 : decode cX1_linkFellows 49 = .ok (.iload 4, 2) := by decide +kernel
theorem dX1_linkFellows_51 : decode cX1_linkFellows 51 = .ok (.ishl, 1) := by decide +kernel
theorem dX1_linkFellows_52 : decode cX1_linkFellows 52 = .ok (.ior, 1) := by decide +kernel
theorem dX1_linkFellows_53 : decode cX1_linkFellows 53 = .ok (.iastore, 1) := by decide +kernel
theorem dX1_linkFellows_54 : decode cX1_linkFellows 54 = .ok (.iinc 4 1, 3) := by decide +kernel
theorem dX1_linkFellows_57 : decode cX1_linkFellows 57 = .ok (.goto (-39), 3) := by decide +kernel
theorem dX1_linkFellows_60 : decode cX1_linkFellows 60 = .ok (.iinc 3 1, 3) := by decide +kernel
theorem dX1_linkFellows_63 : decode cX1_linkFellows 63 = .ok (.goto (-61), 3) := by decide +kernel
theorem dX1_linkFellows_66 : decode cX1_linkFellows 66 = .ok (.return_, 1) := by decide +kernel
theorem dX1_mostWith_0 : decode cX1_mostWith 0 = .ok (.iload_n 1, 1) := by decide +kernel
theorem dX1_mostWith_1 : decode cX1_mostWith 1 = .ok (.ifCond .lt 22, 3) := by decide +kernel
theorem dX1_mostWith_4 : decode cX1_mostWith 4 = .ok (.iload_n 1, 1) := by decide +kernel
theorem dX1_mostWith_5 : decode cX1_mostWith 5 = .ok (.bipush 12, 2) := by decide +kernel
theorem dX1_mostWith_7 : decode cX1_mostWith 7 = .ok (.if_icmp .ge 16, 3) := by decide +kernel
theorem dX1_mostWith_10 : decode cX1_mostWith 10 = .ok (.iload_n 2, 1) := by decide +kernel
theorem dX1_mostWith_11 : decode cX1_mostWith 11 = .ok (.ifCond .lt 12, 3) := by decide +kernel
theorem dX1_mostWith_14 : decode cX1_mostWith 14 = .ok (.iload_n 2, 1) := by decide +kernel
theorem dX1_mostWith_15 : decode cX1_mostWith 15 = .ok (.aload_n 0, 1) := by decide +kernel
theorem dX1_mostWith_16 : decode cX1_mostWith 16 = .ok (.getfield 15, 3) := by decide +kernel
theorem dX1_mostWith_19 : decode cX1_mostWith 19 = .ok (.arraylength, 1) := by decide +kernel
theorem dX1_mostWith_20 : decode cX1_mostWith 20 = .ok (.if_icmp .lt 5, 3) := by decide +kernel
theorem dX1_mostWith_23 : decode cX1_mostWith 23 = .ok (.iconst 0, 1) := by decide +kernel
theorem dX1_mostWith_24 : decode cX1_mostWith 24 = .ok (.ireturn, 1) := by decide +kernel
theorem dX1_mostWith_25 : decode cX1_mostWith 25 = .ok (.aload_n 0, 1) := by decide +kernel
theorem dX1_mostWith_26 : decode cX1_mostWith 26 = .ok (.getfield 15, 3) := by decide +kernel
theorem dX1_mostWith_29 : decode cX1_mostWith 29 = .ok (.iload_n 2, 1) := by decide +kernel
theorem dX1_mostWith_30 : decode cX1_mostWith 30 = .ok (.iaload, 1) := by decide +kernel
theorem dX1_mostWith_31 : decode cX1_mostWith 31 = .ok (.istore_n 3, 1) := by decide +kernel
theorem dX1_mostWith_32 : decode cX1_mostWith 32 = .ok (.iconst 0, 1) := by decide +kernel
theorem dX1_mostWith_33 : decode cX1_mostWith 33 = .ok (.istore 4, 2) := by decide +kernel
theorem dX1_mostWith_35 : decode cX1_mostWith 35 = .ok (.iload 4, 2) := by decide +kernel
theorem dX1_mostWith_37 : decode cX1_mostWith 37 = .ok (.iload_n 1, 1) := by decide +kernel
theorem dX1_mostWith_38 : decode cX1_mostWith 38 = .ok (.if_icmp .ge 45, 3) := by decide +kernel
theorem dX1_mostWith_41 : decode cX1_mostWith 41 = .ok (.aload_n 0, 1) := by decide +kernel
theorem dX1_mostWith_42 : decode cX1_mostWith 42 = .ok (.getfield 9, 3) := by decide +kernel
theorem dX1_mostWith_45 : decode cX1_mostWith 45 = .ok (.iload_n 1, 1) := by decide +kernel
theorem dX1_mostWith_46 : decode cX1_mostWith 46 = .ok (.iaload, 1) := by decide +kernel
theorem dX1_mostWith_47 : decode cX1_mostWith 47 = .ok (.iload_n 2, 1) := by decide +kernel
theorem dX1_mostWith_48 : decode cX1_mostWith 48 = .ok (.iand, 1) := by decide +kernel
theorem dX1_mostWith_49 : decode cX1_mostWith 49 = .ok (.iload 4, 2) := by decide +kernel
theorem dX1_mostWith_51 : decode cX1_mostWith 51 = .ok (.invokestatic 18, 3) := by decide +kernel
theorem dX1_mostWith_54 : decode cX1_mostWith 54 = .ok (.ifCond .eq 23, 3) := by decide +kernel
theorem dX1_mostWith_57 : decode cX1_mostWith 57 = .ok (.iload_n 3, 1) := by decide +kernel
theorem dX1_mostWith_58 : decode cX1_mostWith 58 = .ok (.iconst 1, 1) := by decide +kernel
theorem dX1_mostWith_59 : decode cX1_mostWith 59 = .ok (.aload_n 0, 1) := by decide +kernel
theorem dX1_mostWith_60 : decode cX1_mostWith 60 = .ok (.getfield 15, 3) := by decide +kernel
theorem dX1_mostWith_63 : decode cX1_mostWith 63 = .ok (.iload_n 2, 1) := by decide +kernel
theorem dX1_mostWith_64 : decode cX1_mostWith 64 = .ok (.iconst 1, 1) := by decide +kernel
theorem dX1_mostWith_65 : decode cX1_mostWith 65 = .ok (.iload 4, 2) := by decide +kernel
theorem dX1_mostWith_67 : decode cX1_mostWith 67 = .ok (.ishl, 1) := by decide +kernel
theorem dX1_mostWith_68 : decode cX1_mostWith 68 = .ok (.iconst (-1), 1) := by decide +kernel
theorem dX1_mostWith_69 : decode cX1_mostWith 69 = .ok (.ixor, 1) := by decide +kernel
theorem dX1_mostWith_70 : decode cX1_mostWith 70 = .ok (.iand, 1) := by decide +kernel
theorem dX1_mostWith_71 : decode cX1_mostWith 71 = .ok (.iaload, 1) := by decide +kernel
theorem dX1_mostWith_72 : decode cX1_mostWith 72 = .ok (.iadd, 1) := by decide +kernel
theorem dX1_mostWith_73 : decode cX1_mostWith 73 = .ok (.invokestatic 78, 3) := by decide +kernel
theorem dX1_mostWith_76 : decode cX1_mostWith 76 = .ok (.istore_n 3, 1) := by decide +kernel
theorem dX1_mostWith_77 : decode cX1_mostWith 77 = .ok (.iinc 4 1, 3) := by decide +kernel
theorem dX1_mostWith_80 : decode cX1_mostWith 80 = .ok (.goto (-45), 3) := by decide +kernel
theorem dX1_mostWith_83 : decode cX1_mostWith 83 = .ok (.iload_n 3, 1) := by decide +kernel
theorem dX1_mostWith_84 : decode cX1_mostWith 84 = .ok (.ireturn, 1) := by decide +kernel
theorem dX3_init_0 : decode cX3_init 0 = .ok (.aload_n 0, 1) := by decide +kernel
theorem dX3_init_1 : decode cX3_init 1 = .ok (.invokespecial 3, 3) := by decide +kernel
theorem dX3_init_4 : decode cX3_init 4 = .ok (.aload_n 0, 1) := by decide +kernel
theorem dX3_init_5 : decode cX3_init 5 = .ok (.bipush 12, 2) := by decide +kernel
theorem dX3_init_7 : decode cX3_init 7 = .ok (.newarray .int, 2) := by decide +kernel
theorem dX3_init_9 : decode cX3_init 9 = .ok (.putfield 9, 3) := by decide +kernel
theorem dX3_init_12 : decode cX3_init 12 = .ok (.return_, 1) := by decide +kernel
theorem dX3_fewestForAllDoors_0 : decode cX3_fewestForAllDoors 0 = .ok (.sipush 4095, 3) := by decide +kernel
theorem dX3_fewestForAllDoors_3 : decode cX3_fewestForAllDoors 3 = .ok (.istore_n 2, 1) := by decide +kernel
theorem dX3_fewestForAllDoors_4 : decode cX3_fewestForAllDoors 4 = .ok (.bipush (-2), 2) := by decide +kernel
theorem dX3_fewestForAllDoors_6 : decode cX3_fewestForAllDoors 6 = .ok (.istore_n 3, 1) := by decide +kernel
theorem dX3_fewestForAllDoors_7 : decode cX3_fewestForAllDoors 7 = .ok (.bipush 13, 2) := by decide +kernel
theorem dX3_fewestForAllDoors_9 : decode cX3_fewestForAllDoors 9 = .ok (.istore 4, 2) := by decide +kernel
theorem dX3_fewestForAllDoors_11 : decode cX3_fewestForAllDoors 11 = .ok (.iconst 0, 1) := by decide +kernel
theorem dX3_fewestForAllDoors_12 : decode cX3_fewestForAllDoors 12 = .ok (.istore 5, 2) := by decide +kernel
theorem dX3_fewestForAllDoors_14 : decode cX3_fewestForAllDoors 14 = .ok (.iload 5, 2) := by decide +kernel
theorem dX3_fewestForAllDoors_16 : decode cX3_fewestForAllDoors 16 = .ok (.bipush 12, 2) := by decide +kernel
theorem dX3_fewestForAllDoors_18 : decode cX3_fewestForAllDoors 18 = .ok (.if_icmp .ge 22, 3) := by decide +kernel
theorem dX3_fewestForAllDoors_21 : decode cX3_fewestForAllDoors 21 = .ok (.aload_n 0, 1) := by decide +kernel
theorem dX3_fewestForAllDoors_22 : decode cX3_fewestForAllDoors 22 = .ok (.getfield 9, 3) := by decide +kernel
theorem dX3_fewestForAllDoors_25 : decode cX3_fewestForAllDoors 25 = .ok (.iload 5, 2) := by decide +kernel
theorem dX3_fewestForAllDoors_27 : decode cX3_fewestForAllDoors 27 = .ok (.aload_n 1, 1) := by decide +kernel
theorem dX3_fewestForAllDoors_28 : decode cX3_fewestForAllDoors 28 = .ok (.iload 5, 2) := by decide +kernel
theorem dX3_fewestForAllDoors_30 : decode cX3_fewestForAllDoors 30 = .ok (.invokevirtual 43, 3) := by decide +kernel
theorem dX3_fewestForAllDoors_33 : decode cX3_fewestForAllDoors 33 = .ok (.iastore, 1) := by decide +kernel
theorem dX3_fewestForAllDoors_34 : decode cX3_fewestForAllDoors 34 = .ok (.iinc 5 1, 3) := by decide +kernel
theorem dX3_fewestForAllDoors_37 : decode cX3_fewestForAllDoors 37 = .ok (.goto (-23), 3) := by decide +kernel
theorem dX3_fewestForAllDoors_40 : decode cX3_fewestForAllDoors 40 = .ok (.iconst 0, 1) := by decide +kernel
theorem dX3_fewestForAllDoors_41 : decode cX3_fewestForAllDoors 41 = .ok (.istore 5, 2) := by decide +kernel
theorem dX3_fewestForAllDoors_43 : decode cX3_fewestForAllDoors 43 = .ok (.iload 5, 2) := by decide +kernel
theorem dX3_fewestForAllDoors_45 : decode cX3_fewestForAllDoors 45 = .ok (.iload_n 2, 1) := by decide +kernel
theorem dX3_fewestForAllDoors_46 : decode cX3_fewestForAllDoors 46 = .ok (.if_icmp .gt 42, 3) := by decide +kernel
theorem dX3_fewestForAllDoors_49 : decode cX3_fewestForAllDoors 49 = .ok (.iload 5, 2) := by decide +kernel
theorem dX3_fewestForAllDoors_51 : decode cX3_fewestForAllDoors 51 = .ok (.invokestatic 46, 3) := by decide +kernel
theorem dX3_fewestForAllDoors_54 : decode cX3_fewestForAllDoors 54 = .ok (.iload 4, 2) := by decide +kernel
theorem dX3_fewestForAllDoors_56 : decode cX3_fewestForAllDoors 56 = .ok (.if_icmp .ge 26, 3) := by decide +kernel
theorem dX3_fewestForAllDoors_59 : decode cX3_fewestForAllDoors 59 = .ok (.aload_n 0, 1) := by decide +kernel
theorem dX3_fewestForAllDoors_60 : decode cX3_fewestForAllDoors 60 = .ok (.iload 5, 2) := by decide +kernel
theorem dX3_fewestForAllDoors_62 : decode cX3_fewestForAllDoors 62 = .ok (.invokevirtual 51, 3) := by decide +kernel
theorem dX3_fewestForAllDoors_65 : decode cX3_fewestForAllDoors 65 = .ok (.aload_n 1, 1) := by decide +kernel
theorem dX3_fewestForAllDoors_66 : decode cX3_fewestForAllDoors 66 = .ok (.getfield 54, 3) := by decide +kernel
theorem dX3_fewestForAllDoors_69 : decode cX3_fewestForAllDoors 69 = .ok (.if_icmp .ne 13, 3) := by decide +kernel
theorem dX3_fewestForAllDoors_72 : decode cX3_fewestForAllDoors 72 = .ok (.iload 5, 2) := by decide +kernel
theorem dX3_fewestForAllDoors_74 : decode cX3_fewestForAllDoors 74 = .ok (.istore_n 3, 1) := by decide +kernel
theorem dX3_fewestForAllDoors_75 : decode cX3_fewestForAllDoors 75 = .ok (.iload 5, 2) := by decide +kernel
theorem dX3_fewestForAllDoors_77 : decode cX3_fewestForAllDoors 77 = .ok (.invokestatic 46, 3) := by decide +kernel
theorem dX3_fewestForAllDoors_80 : decode cX3_fewestForAllDoors 80 = .ok (.istore 4, 2) := by decide +kernel
theorem dX3_fewestForAllDoors_82 : decode cX3_fewestForAllDoors 82 = .ok (.iinc 5 1, 3) := by decide +kernel
theorem dX3_fewestForAllDoors_85 : decode cX3_fewestForAllDoors 85 = .ok (.goto (-42), 3) := by decide +kernel
theorem dX3_fewestForAllDoors_88 : decode cX3_fewestForAllDoors 88 = .ok (.iload_n 3, 1) := by decide +kernel
theorem dX3_fewestForAllDoors_89 : decode cX3_fewestForAllDoors 89 = .ok (.ireturn, 1) := by decide +kernel
theorem dX3_openedBy_0 : decode cX3_openedBy 0 = .ok (.iconst 0, 1) := by decide +kernel
theorem dX3_openedBy_1 : decode cX3_openedBy 1 = .ok (.istore_n 2, 1) := by decide +kernel
theorem dX3_openedBy_2 : decode cX3_openedBy 2 = .ok (.iconst 0, 1) := by decide +kernel
theorem dX3_openedBy_3 : decode cX3_openedBy 3 = .ok (.istore_n 3, 1) := by decide +kernel
theorem dX3_openedBy_4 : decode cX3_openedBy 4 = .ok (.iload_n 3, 1) := by decide +kernel
theorem dX3_openedBy_5 : decode cX3_openedBy 5 = .ok (.aload_n 0, 1) := by decide +kernel
theorem dX3_openedBy_6 : decode cX3_openedBy 6 = .ok (.getfield 9, 3) := by decide +kernel
theorem dX3_openedBy_9 : decode cX3_openedBy 9 = .ok (.arraylength, 1) := by decide +kernel
theorem dX3_openedBy_10 : decode cX3_openedBy 10 = .ok (.if_icmp .ge 26, 3) := by decide +kernel
theorem dX3_openedBy_13 : decode cX3_openedBy 13 = .ok (.iload_n 1, 1) := by decide +kernel
theorem dX3_openedBy_14 : decode cX3_openedBy 14 = .ok (.iload_n 3, 1) := by decide +kernel
theorem dX3_openedBy_15 : decode cX3_openedBy 15 = .ok (.invokestatic 58, 3) := by decide +kernel
theorem dX3_openedBy_18 : decode cX3_openedBy 18 = .ok (.ifCond .eq 12, 3) := by decide +kernel
theorem dX3_openedBy_21 : decode cX3_openedBy 21 = .ok (.iload_n 2, 1) := by decide +kernel
theorem dX3_openedBy_22 : decode cX3_openedBy 22 = .ok (.aload_n 0, 1) := by decide +kernel
theorem dX3_openedBy_23 : decode cX3_openedBy 23 = .ok (.getfield 9, 3) := by decide +kernel
theorem dX3_openedBy_26 : decode cX3_openedBy 26 = .ok (.iload_n 3, 1) := by decide +kernel
theorem dX3_openedBy_27 : decode cX3_openedBy 27 = .ok (.iaload, 1) := by decide +kernel
theorem dX3_openedBy_28 : decode cX3_openedBy 28 = .ok (.ior, 1) := by decide +kernel
theorem dX3_openedBy_29 : decode cX3_openedBy 29 = .ok (.istore_n 2, 1) := by decide +kernel
theorem dX3_openedBy_30 : decode cX3_openedBy 30 = .ok (.iinc 3 1, 3) := by decide +kernel
theorem dX3_openedBy_33 : decode cX3_openedBy 33 = .ok (.goto (-29), 3) := by decide +kernel
theorem dX3_openedBy_36 : decode cX3_openedBy 36 = .ok (.iload_n 2, 1) := by decide +kernel
theorem dX3_openedBy_37 : decode cX3_openedBy 37 = .ok (.ireturn, 1) := by decide +kernel
theorem dX3_mostLet_0 : decode cX3_mostLet 0 = .ok (.iconst 0, 1) := by decide +kernel
theorem dX3_mostLet_1 : decode cX3_mostLet 1 = .ok (.istore_n 1, 1) := by decide +kernel
theorem dX3_mostLet_2 : decode cX3_mostLet 2 = .ok (.bipush 99, 2) := by decide +kernel
theorem dX3_mostLet_4 : decode cX3_mostLet 4 = .ok (.istore_n 2, 1) := by decide +kernel
theorem dX3_mostLet_5 : decode cX3_mostLet 5 = .ok (.iload_n 2, 1) := by decide +kernel
theorem dX3_mostLet_6 : decode cX3_mostLet 6 = .ok (.ifCond .lt 61, 3) := by decide +kernel
theorem dX3_mostLet_9 : decode cX3_mostLet 9 = .ok (.iconst 0, 1) := by decide +kernel
theorem dX3_mostLet_10 : decode cX3_mostLet 10 = .ok (.istore_n 3, 1) := by decide +kernel
theorem dX3_mostLet_11 : decode cX3_mostLet 11 = .ok (.iload_n 3, 1) := by decide +kernel
theorem dX3_mostLet_12 : decode cX3_mostLet 12 = .ok (.bipush 16, 2) := by decide +kernel
theorem dX3_mostLet_14 : decode cX3_mostLet 14 = .ok (.if_icmp .ge 47, 3) := by decide +kernel
theorem dX3_mostLet_17 : decode cX3_mostLet 17 = .ok (.aload_n 0, 1) := by decide +kernel
theorem dX3_mostLet_18 : decode cX3_mostLet 18 = .ok (.iload_n 3, 1) := by decide +kernel
theorem dX3_mostLet_19 : decode cX3_mostLet 19 = .ok (.invokevirtual 15, 3) := by decide +kernel
theorem dX3_mostLet_22 : decode cX3_mostLet 22 = .ok (.ifCond .eq 33, 3) := by decide +kernel
theorem dX3_mostLet_25 : decode cX3_mostLet 25 = .ok (.aload_n 0, 1) := by decide +kernel
theorem dX3_mostLet_26 : decode cX3_mostLet 26 = .ok (.getfield 24, 3) := by decide +kernel
theorem dX3_mostLet_29 : decode cX3_mostLet 29 = .ok (.iload_n 3, 1) := by decide +kernel
theorem dX3_mostLet_30 : decode cX3_mostLet 30 = .ok (.iaload, 1) := by decide +kernel
theorem dX3_mostLet_31 : decode cX3_mostLet 31 = .ok (.iload_n 2, 1) := by decide +kernel
theorem dX3_mostLet_32 : decode cX3_mostLet 32 = .ok (.if_icmp .ne 23, 3) := by decide +kernel
theorem dX3_mostLet_35 : decode cX3_mostLet 35 = .ok (.aload_n 0, 1) := by decide +kernel
theorem dX3_mostLet_36 : decode cX3_mostLet 36 = .ok (.iload_n 3, 1) := by decide +kernel
theorem dX3_mostLet_37 : decode cX3_mostLet 37 = .ok (.invokevirtual 62, 3) := by decide +kernel
theorem dX3_mostLet_40 : decode cX3_mostLet 40 = .ok (.iload_n 1, 1) := by decide +kernel
theorem dX3_mostLet_41 : decode cX3_mostLet 41 = .ok (.iconst (-1), 1) := by decide +kernel
theorem dX3_mostLet_42 : decode cX3_mostLet 42 = .ok (.ixor, 1) := by decide +kernel
theorem dX3_mostLet_43 : decode cX3_mostLet 43 = .ok (.iand, 1) := by decide +kernel
theorem dX3_mostLet_44 : decode cX3_mostLet 44 = .ok (.istore 4, 2) := by decide +kernel
theorem dX3_mostLet_46 : decode cX3_mostLet 46 = .ok (.iload_n 1, 1) := by decide +kernel
theorem dX3_mostLet_47 : decode cX3_mostLet 47 = .ok (.iload 4, 2) := by decide +kernel
theorem dX3_mostLet_49 : decode cX3_mostLet 49 = .ok (.iload 4, 2) := by decide +kernel
theorem dX3_mostLet_51 : decode cX3_mostLet 51 = .ok (.ineg, 1) := by decide +kernel
theorem dX3_mostLet_52 : decode cX3_mostLet 52 = .ok (.iand, 1) := by decide +kernel
theorem dX3_mostLet_53 : decode cX3_mostLet 53 = .ok (.ior, 1) := by decide +kernel
theorem dX3_mostLet_54 : decode cX3_mostLet 54 = .ok (.istore_n 1, 1) := by decide +kernel
theorem dX3_mostLet_55 : decode cX3_mostLet 55 = .ok (.iinc 3 1, 3) := by decide +kernel
theorem dX3_mostLet_58 : decode cX3_mostLet 58 = .ok (.goto (-47), 3) := by decide +kernel
theorem dX3_mostLet_61 : decode cX3_mostLet 61 = .ok (.iinc 2 (-1), 3) := by decide +kernel
theorem dX3_mostLet_64 : decode cX3_mostLet 64 = .ok (.goto (-59), 3) := by decide +kernel
theorem dX3_mostLet_67 : decode cX3_mostLet 67 = .ok (.iload_n 1, 1) := by decide +kernel
theorem dX3_mostLet_68 : decode cX3_mostLet 68 = .ok (.invokestatic 46, 3) := by decide +kernel
theorem dX3_mostLet_71 : decode cX3_mostLet 71 = .ok (.ireturn, 1) := by decide +kernel
theorem dX3_bestToSend_0 : decode cX3_bestToSend 0 = .ok (.bipush (-2), 2) := by decide +kernel
theorem dX3_bestToSend_2 : decode cX3_bestToSend 2 = .ok (.istore_n 2, 1) := by decide +kernel
theorem dX3_bestToSend_3 : decode cX3_bestToSend 3 = .ok (.bipush 17, 2) := by decide +kernel
theorem dX3_bestToSend_5 : decode cX3_bestToSend 5 = .ok (.istore_n 3, 1) := by decide +kernel
theorem dX3_bestToSend_6 : decode cX3_bestToSend 6 = .ok (.iconst 0, 1) := by decide +kernel
theorem dX3_bestToSend_7 : decode cX3_bestToSend 7 = .ok (.istore 4, 2) := by decide +kernel
theorem dX3_bestToSend_9 : decode cX3_bestToSend 9 = .ok (.iload 4, 2) := by decide +kernel
theorem dX3_bestToSend_11 : decode cX3_bestToSend 11 = .ok (.bipush 12, 2) := by decide +kernel
theorem dX3_bestToSend_13 : decode cX3_bestToSend 13 = .ok (.if_icmp .ge 40, 3) := by decide +kernel
theorem dX3_bestToSend_16 : decode cX3_bestToSend 16 = .ok (.aload_n 0, 1) := by decide +kernel
theorem dX3_bestToSend_17 : decode cX3_bestToSend 17 = .ok (.iload 4, 2) := by decide +kernel
theorem dX3_bestToSend_19 : decode cX3_bestToSend 19 = .ok (.invokevirtual 70, 3) := by decide +kernel
theorem dX3_bestToSend_22 : decode cX3_bestToSend 22 = .ok (.ifCond .eq 25, 3) := by decide +kernel
theorem dX3_bestToSend_25 : decode cX3_bestToSend 25 = .ok (.aload_n 0, 1) := by decide +kernel
theorem dX3_bestToSend_26 : decode cX3_bestToSend 26 = .ok (.iload_n 1, 1) := by decide +kernel
theorem dX3_bestToSend_27 : decode cX3_bestToSend 27 = .ok (.iload 4, 2) := by decide +kernel
theorem dX3_bestToSend_29 : decode cX3_bestToSend 29 = .ok (.invokestatic 83, 3) := by decide +kernel
theorem dX3_bestToSend_32 : decode cX3_bestToSend 32 = .ok (.iload_n 3, 1) := by decide +kernel
theorem dX3_bestToSend_33 : decode cX3_bestToSend 33 = .ok (.if_icmp .ge 14, 3) := by decide +kernel
theorem dX3_bestToSend_36 : decode cX3_bestToSend 36 = .ok (.iload 4, 2) := by decide +kernel
theorem dX3_bestToSend_38 : decode cX3_bestToSend 38 = .ok (.istore_n 2, 1) := by decide +kernel
theorem dX3_bestToSend_39 : decode cX3_bestToSend 39 = .ok (.aload_n 0, 1) := by decide +kernel
theorem dX3_bestToSend_40 : decode cX3_bestToSend 40 = .ok (.iload_n 1, 1) := by decide +kernel
theorem dX3_bestToSend_41 : decode cX3_bestToSend 41 = .ok (.iload 4, 2) := by decide +kernel
theorem dX3_bestToSend_43 : decode cX3_bestToSend 43 = .ok (.invokestatic 83, 3) := by decide +kernel
theorem dX3_bestToSend_46 : decode cX3_bestToSend 46 = .ok (.istore_n 3, 1) := by decide +kernel
theorem dX3_bestToSend_47 : decode cX3_bestToSend 47 = .ok (.iinc 4 1, 3) := by decide +kernel
theorem dX3_bestToSend_50 : decode cX3_bestToSend 50 = .ok (.goto (-41), 3) := by decide +kernel
theorem dX3_bestToSend_53 : decode cX3_bestToSend 53 = .ok (.iload_n 2, 1) := by decide +kernel
theorem dX3_bestToSend_54 : decode cX3_bestToSend 54 = .ok (.ireturn, 1) := by decide +kernel
theorem dX4_init_0 : decode cX4_init 0 = .ok (.aload_n 0, 1) := by decide +kernel
theorem dX4_init_1 : decode cX4_init 1 = .ok (.invokespecial 3, 3) := by decide +kernel
theorem dX4_init_4 : decode cX4_init 4 = .ok (.aload_n 0, 1) := by decide +kernel
theorem dX4_init_5 : decode cX4_init 5 = .ok (.sipush 256, 3) := by decide +kernel
theorem dX4_init_8 : decode cX4_init 8 = .ok (.newarray .int, 2) := by decide +kernel
theorem dX4_init_10 : decode cX4_init 10 = .ok (.putfield 11, 3) := by decide +kernel
theorem dX4_init_13 : decode cX4_init 13 = .ok (.aload_n 0, 1) := by decide +kernel
theorem dX4_init_14 : decode cX4_init 14 = .ok (.sipush 256, 3) := by decide +kernel
theorem dX4_init_17 : decode cX4_init 17 = .ok (.newarray .int, 2) := by decide +kernel
theorem dX4_init_19 : decode cX4_init 19 = .ok (.putfield 15, 3) := by decide +kernel
theorem dX4_init_22 : decode cX4_init 22 = .ok (.aload_n 0, 1) := by decide +kernel
theorem dX4_init_23 : decode cX4_init 23 = .ok (.iconst 0, 1) := by decide +kernel
theorem dX4_init_24 : decode cX4_init 24 = .ok (.putfield 18, 3) := by decide +kernel
theorem dX4_init_27 : decode cX4_init 27 = .ok (.aload_n 0, 1) := by decide +kernel
theorem dX4_init_28 : decode cX4_init 28 = .ok (.bipush 16, 2) := by decide +kernel
theorem dX4_init_30 : decode cX4_init 30 = .ok (.newarray .int, 2) := by decide +kernel
theorem dX4_init_32 : decode cX4_init 32 = .ok (.putfield 22, 3) := by decide +kernel
theorem dX4_init_35 : decode cX4_init 35 = .ok (.aload_n 0, 1) := by decide +kernel
theorem dX4_init_36 : decode cX4_init 36 = .ok (.bipush 16, 2) := by decide +kernel
theorem dX4_init_38 : decode cX4_init 38 = .ok (.newarray .int, 2) := by decide +kernel
theorem dX4_init_40 : decode cX4_init 40 = .ok (.putfield 25, 3) := by decide +kernel
theorem dX4_init_43 : decode cX4_init 43 = .ok (.aload_n 0, 1) := by decide +kernel
theorem dX4_init_44 : decode cX4_init 44 = .ok (.bipush 16, 2) := by decide +kernel
theorem dX4_init_46 : decode cX4_init 46 = .ok (.newarray .int, 2) := by decide +kernel
theorem dX4_init_48 : decode cX4_init 48 = .ok (.putfield 28, 3) := by decide +kernel
theorem dX4_init_51 : decode cX4_init 51 = .ok (.aload_n 0, 1) := by decide +kernel
theorem dX4_init_52 : decode cX4_init 52 = .ok (.iconst 0, 1) := by decide +kernel
theorem dX4_init_53 : decode cX4_init 53 = .ok (.putfield 31, 3) := by decide +kernel
theorem dX4_init_56 : decode cX4_init 56 = .ok (.aload_n 0, 1) := by decide +kernel
theorem dX4_init_57 : decode cX4_init 57 = .ok (.ldc 34, 2) := by decide +kernel
theorem dX4_init_59 : decode cX4_init 59 = .ok (.invokevirtual 36, 3) := by decide +kernel
theorem dX4_init_62 : decode cX4_init 62 = .ok (.newarray .int, 2) := by decide +kernel
theorem dX4_init_64 : decode cX4_init 64 = .ok (.putfield 42, 3) := by decide +kernel
theorem dX4_init_67 : decode cX4_init 67 = .ok (.aload_n 0, 1) := by decide +kernel
theorem dX4_init_68 : decode cX4_init 68 = .ok (.bipush 32, 2) := by decide +kernel
theorem dX4_init_70 : decode cX4_init 70 = .ok (.newarray .int, 2) := by decide +kernel
theorem dX4_init_72 : decode cX4_init 72 = .ok (.putfield 45, 3) := by decide +kernel
theorem dX4_init_75 : decode cX4_init 75 = .ok (.aload_n 0, 1) := by decide +kernel
theorem dX4_init_76 : decode cX4_init 76 = .ok (.iconst 0, 1) := by decide +kernel
theorem dX4_init_77 : decode cX4_init 77 = .ok (.putfield 48, 3) := by decide +kernel
theorem dX4_init_80 : decode cX4_init 80 = .ok (.return_, 1) := by decide +kernel
theorem dX4_meanOther_0 : decode cX4_meanOther 0 = .ok (.aload_n 0, 1) := by decide +kernel
theorem dX4_meanOther_1 : decode cX4_meanOther 1 = .ok (.getfield 42, 3) := by decide +kernel
theorem dX4_meanOther_4 : decode cX4_meanOther 4 = .ok (.iconst 1, 1) := by decide +kernel
theorem dX4_meanOther_5 : decode cX4_meanOther 5 = .ok (.iload_n 1, 1) := by decide +kernel
theorem dX4_meanOther_6 : decode cX4_meanOther 6 = .ok (.iastore, 1) := by decide +kernel
theorem dX4_meanOther_7 : decode cX4_meanOther 7 = .ok (.aload_n 0, 1) := by decide +kernel
theorem dX4_meanOther_8 : decode cX4_meanOther 8 = .ok (.getfield 42, 3) := by decide +kernel
theorem dX4_meanOther_11 : decode cX4_meanOther 11 = .ok (.iconst 2, 1) := by decide +kernel
theorem dX4_meanOther_12 : decode cX4_meanOther 12 = .ok (.iload_n 2, 1) := by decide +kernel
theorem dX4_meanOther_13 : decode cX4_meanOther 13 = .ok (.iastore, 1) := by decide +kernel
theorem dX4_meanOther_14 : decode cX4_meanOther 14 = .ok (.aload_n 0, 1) := by decide +kernel
theorem dX4_meanOther_15 : decode cX4_meanOther 15 = .ok (.getfield 42, 3) := by decide +kernel
theorem dX4_meanOther_18 : decode cX4_meanOther 18 = .ok (.iconst 3, 1) := by decide +kernel
theorem dX4_meanOther_19 : decode cX4_meanOther 19 = .ok (.iload_n 3, 1) := by decide +kernel
theorem dX4_meanOther_20 : decode cX4_meanOther 20 = .ok (.iastore, 1) := by decide +kernel
theorem dX4_meanOther_21 : decode cX4_meanOther 21 = .ok (.return_, 1) := by decide +kernel
theorem dX4_meanDoor_0 : decode cX4_meanDoor 0 = .ok (.aload_n 0, 1) := by decide +kernel
theorem dX4_meanDoor_1 : decode cX4_meanDoor 1 = .ok (.getfield 42, 3) := by decide +kernel
theorem dX4_meanDoor_4 : decode cX4_meanDoor 4 = .ok (.iconst 5, 1) := by decide +kernel
theorem dX4_meanDoor_5 : decode cX4_meanDoor 5 = .ok (.iload_n 1, 1) := by decide +kernel
theorem dX4_meanDoor_6 : decode cX4_meanDoor 6 = .ok (.iastore, 1) := by decide +kernel
theorem dX4_meanDoor_7 : decode cX4_meanDoor 7 = .ok (.aload_n 0, 1) := by decide +kernel
theorem dX4_meanDoor_8 : decode cX4_meanDoor 8 = .ok (.getfield 42, 3) := by decide +kernel
theorem dX4_meanDoor_11 : decode cX4_meanDoor 11 = .ok (.bipush 7, 2) := by decide +kernel
theorem dX4_meanDoor_13 : decode cX4_meanDoor 13 = .ok (.iload_n 2, 1) := by decide +kernel
theorem dX4_meanDoor_14 : decode cX4_meanDoor 14 = .ok (.iastore, 1) := by decide +kernel
theorem dX4_meanDoor_15 : decode cX4_meanDoor 15 = .ok (.return_, 1) := by decide +kernel
theorem dX4_meanTime_0 : decode cX4_meanTime 0 = .ok (.aload_n 0, 1) := by decide +kernel
theorem dX4_meanTime_1 : decode cX4_meanTime 1 = .ok (.getfield 42, 3) := by decide +kernel
theorem dX4_meanTime_4 : decode cX4_meanTime 4 = .ok (.bipush 8, 2) := by decide +kernel
theorem dX4_meanTime_6 : decode cX4_meanTime 6 = .ok (.iload_n 1, 1) := by decide +kernel
theorem dX4_meanTime_7 : decode cX4_meanTime 7 = .ok (.iastore, 1) := by decide +kernel
theorem dX4_meanTime_8 : decode cX4_meanTime 8 = .ok (.aload_n 0, 1) := by decide +kernel
theorem dX4_meanTime_9 : decode cX4_meanTime 9 = .ok (.getfield 42, 3) := by decide +kernel
theorem dX4_meanTime_12 : decode cX4_meanTime 12 = .ok (.bipush 9, 2) := by decide +kernel
theorem dX4_meanTime_14 : decode cX4_meanTime 14 = .ok (.iload_n 2, 1) := by decide +kernel
theorem dX4_meanTime_15 : decode cX4_meanTime 15 = .ok (.iastore, 1) := by decide +kernel
theorem dX4_meanTime_16 : decode cX4_meanTime 16 = .ok (.return_, 1) := by decide +kernel
theorem dX7_init_0 : decode cX7_init 0 = .ok (.aload_n 0, 1) := by decide +kernel
theorem dX7_init_1 : decode cX7_init 1 = .ok (.invokespecial 3, 3) := by decide +kernel
theorem dX7_init_4 : decode cX7_init 4 = .ok (.aload_n 0, 1) := by decide +kernel
theorem dX7_init_5 : decode cX7_init 5 = .ok (.new 9, 3) := by decide +kernel
theorem dX7_init_8 : decode cX7_init 8 = .ok (.dup, 1) := by decide +kernel
theorem dX7_init_9 : decode cX7_init 9 = .ok (.invokespecial 11, 3) := by decide +kernel
theorem dX7_init_12 : decode cX7_init 12 = .ok (.putfield 12, 3) := by decide +kernel
theorem dX7_init_15 : decode cX7_init 15 = .ok (.aload_n 0, 1) := by decide +kernel
theorem dX7_init_16 : decode cX7_init 16 = .ok (.iconst 0, 1) := by decide +kernel
theorem dX7_init_17 : decode cX7_init 17 = .ok (.putfield 18, 3) := by decide +kernel
theorem dX7_init_20 : decode cX7_init 20 = .ok (.aload_n 0, 1) := by decide +kernel
theorem dX7_init_21 : decode cX7_init 21 = .ok (.iconst 0, 1) := by decide +kernel
theorem dX7_init_22 : decode cX7_init 22 = .ok (.putfield 22, 3) := by decide +kernel
theorem dX7_init_25 : decode cX7_init 25 = .ok (.return_, 1) := by decide +kernel
theorem dX7_pass_0 : decode cX7_pass 0 = .ok (.aload_n 0, 1) := by decide +kernel
theorem dX7_pass_1 : decode cX7_pass 1 = .ok (.iconst 0, 1) := by decide +kernel
theorem dX7_pass_2 : decode cX7_pass 2 = .ok (.putfield 18, 3) := by decide +kernel
theorem dX7_pass_5 : decode cX7_pass 5 = .ok (.aload_n 0, 1) := by decide +kernel
theorem dX7_pass_6 : decode cX7_pass 6 = .ok (.iconst 0, 1) := by decide +kernel
theorem dX7_pass_7 : decode cX7_pass 7 = .ok (.putfield 22, 3) := by decide +kernel
theorem dX7_pass_10 : decode cX7_pass 10 = .ok (.iconst 0, 1) := by decide +kernel
theorem dX7_pass_11 : decode cX7_pass 11 = .ok (.istore 4, 2) := by decide +kernel
theorem dX7_pass_13 : decode cX7_pass 13 = .ok (.iload 4, 2) := by decide +kernel
theorem dX7_pass_15 : decode cX7_pass 15 = .ok (.iload_n 3, 1) := by decide +kernel
theorem dX7_pass_16 : decode cX7_pass 16 = .ok (.if_icmp .ge 68, 3) := by decide +kernel
theorem dX7_pass_19 : decode cX7_pass 19 = .ok (.aload_n 1, 1) := by decide +kernel
theorem dX7_pass_20 : decode cX7_pass 20 = .ok (.getfield 25, 3) := by decide +kernel
theorem dX7_pass_23 : decode cX7_pass 23 = .ok (.sipush 9999, 3) := by decide +kernel
theorem dX7_pass_26 : decode cX7_pass 26 = .ok (.if_icmp .ge 58, 3) := by decide +kernel
theorem dX7_pass_29 : decode cX7_pass 29 = .ok (.iconst 0, 1) := by decide +kernel
theorem dX7_pass_30 : decode cX7_pass 30 = .ok (.istore 5, 2) := by decide +kernel
theorem dX7_pass_32 : decode cX7_pass 32 = .ok (.iload 5, 2) := by decide +kernel
theorem dX7_pass_34 : decode cX7_pass 34 = .ok (.bipush 12, 2) := by decide +kernel
theorem dX7_pass_36 : decode cX7_pass 36 = .ok (.if_icmp .ge 26, 3) := by decide +kernel
theorem dX7_pass_39 : decode cX7_pass 39 = .ok (.aload_n 1, 1) := by decide +kernel
theorem dX7_pass_40 : decode cX7_pass 40 = .ok (.iload 5, 2) := by decide +kernel
theorem dX7_pass_42 : decode cX7_pass 42 = .ok (.invokevirtual 28, 3) := by decide +kernel
theorem dX7_pass_45 : decode cX7_pass 45 = .ok (.ifCond .eq 11, 3) := by decide +kernel
theorem dX7_pass_48 : decode cX7_pass 48 = .ok (.aload_n 0, 1) := by decide +kernel
theorem dX7_pass_49 : decode cX7_pass 49 = .ok (.aload_n 1, 1) := by decide +kernel
theorem dX7_pass_50 : decode cX7_pass 50 = .ok (.aload_n 2, 1) := by decide +kernel
theorem dX7_pass_51 : decode cX7_pass 51 = .ok (.iload 5, 2) := by decide +kernel
theorem dX7_pass_53 : decode cX7_pass 53 = .ok (.invokevirtual 32, 3) := by decide +kernel
theorem dX7_pass_56 : decode cX7_pass 56 = .ok (.iinc 5 1, 3) := by decide +kernel
theorem dX7_pass_59 : decode cX7_pass 59 = .ok (.goto (-27), 3) := by decide +kernel
theorem dX7_pass_62 : decode cX7_pass 62 = .ok (.aload_n 0, 1) := by decide +kernel
theorem dX7_pass_63 : decode cX7_pass 63 = .ok (.aload_n 1, 1) := by decide +kernel
theorem dX7_pass_64 : decode cX7_pass 64 = .ok (.aload_n 2, 1) := by decide +kernel
theorem dX7_pass_65 : decode cX7_pass 65 = .ok (.invokevirtual 36, 3) := by decide +kernel
theorem dX7_pass_68 : decode cX7_pass 68 = .ok (.aload_n 1, 1) := by decide +kernel
theorem dX7_pass_69 : decode cX7_pass 69 = .ok (.dup, 1) := by decide +kernel
theorem dX7_pass_70 : decode cX7_pass 70 = .ok (.getfield 25, 3) := by decide +kernel
theorem dX7_pass_73 : decode cX7_pass 73 = .ok (.iconst 1, 1) := by decide +kernel
theorem dX7_pass_74 : decode cX7_pass 74 = .ok (.iadd, 1) := by decide +kernel
theorem dX7_pass_75 : decode cX7_pass 75 = .ok (.putfield 25, 3) := by decide +kernel
theorem dX7_pass_78 : decode cX7_pass 78 = .ok (.iinc 4 1, 3) := by decide +kernel
theorem dX7_pass_81 : decode cX7_pass 81 = .ok (.goto (-68), 3) := by decide +kernel
theorem dX7_pass_84 : decode cX7_pass 84 = .ok (.return_, 1) := by decide +kernel
theorem dX7_spreadDread_0 : decode cX7_spreadDread 0 = .ok (.aload_n 0, 1) := by decide +kernel
theorem dX7_spreadDread_1 : decode cX7_spreadDread 1 = .ok (.getfield 12, 3) := by decide +kernel
theorem dX7_spreadDread_4 : decode cX7_spreadDread 4 = .ok (.aload_n 1, 1) := by decide +kernel
theorem dX7_spreadDread_5 : decode cX7_spreadDread 5 = .ok (.invokevirtual 118, 3) := by decide +kernel
theorem dX7_spreadDread_8 : decode cX7_spreadDread 8 = .ok (.aload_n 2, 1) := by decide +kernel
theorem dX7_spreadDread_9 : decode cX7_spreadDread 9 = .ok (.iconst 0, 1) := by decide +kernel
theorem dX7_spreadDread_10 : decode cX7_spreadDread 10 = .ok (.iconst 0, 1) := by decide +kernel
theorem dX7_spreadDread_11 : decode cX7_spreadDread 11 = .ok (.invokevirtual 61, 3) := by decide +kernel
theorem dX7_spreadDread_14 : decode cX7_spreadDread 14 = .ok (.aload_n 2, 1) := by decide +kernel
theorem dX7_spreadDread_15 : decode cX7_spreadDread 15 = .ok (.aload_n 1, 1) := by decide +kernel
theorem dX7_spreadDread_16 : decode cX7_spreadDread 16 = .ok (.getfield 25, 3) := by decide +kernel
theorem dX7_spreadDread_19 : decode cX7_spreadDread 19 = .ok (.bipush 100, 2) := by decide +kernel
theorem dX7_spreadDread_21 : decode cX7_spreadDread 21 = .ok (.irem, 1) := by decide +kernel
theorem dX7_spreadDread_22 : decode cX7_spreadDread 22 = .ok (.iconst 0, 1) := by decide +kernel
theorem dX7_spreadDread_23 : decode cX7_spreadDread 23 = .ok (.invokevirtual 69, 3) := by decide +kernel
theorem dX7_spreadDread_26 : decode cX7_spreadDread 26 = .ok (.iconst 0, 1) := by decide +kernel
theorem dX7_spreadDread_27 : decode cX7_spreadDread 27 = .ok (.istore_n 3, 1) := by decide +kernel
theorem dX7_spreadDread_28 : decode cX7_spreadDread 28 = .ok (.iload_n 3, 1) := by decide +kernel
theorem dX7_spreadDread_29 : decode cX7_spreadDread 29 = .ok (.bipush 12, 2) := by decide +kernel
theorem dX7_spreadDread_31 : decode cX7_spreadDread 31 = .ok (.if_icmp .ge 58, 3) := by decide +kernel
theorem dX7_spreadDread_34 : decode cX7_spreadDread 34 = .ok (.iload_n 3, 1) := by decide +kernel
theorem dX7_spreadDread_35 : decode cX7_spreadDread 35 = .ok (.iconst 1, 1) := by decide +kernel
theorem dX7_spreadDread_36 : decode cX7_spreadDread 36 = .ok (.iadd, 1) := by decide +kernel
theorem dX7_spreadDread_37 : decode cX7_spreadDread 37 = .ok (.istore 4, 2) := by decide +kernel
theorem dX7_spreadDread_39 : decode cX7_spreadDread 39 = .ok (.iload 4, 2) := by decide +kernel
theorem dX7_spreadDread_41 : decode cX7_spreadDread 41 = .ok (.bipush 12, 2) := by decide +kernel
theorem dX7_spreadDread_43 : decode cX7_spreadDread 43 = .ok (.if_icmp .ge 40, 3) := by decide +kernel
theorem dX7_spreadDread_46 : decode cX7_spreadDread 46 = .ok (.aload_n 1, 1) := by decide +kernel
theorem dX7_spreadDread_47 : decode cX7_spreadDread 47 = .ok (.iload_n 3, 1) := by decide +kernel
theorem dX7_spreadDread_48 : decode cX7_spreadDread 48 = .ok (.invokevirtual 44, 3) := by decide +kernel
theorem dX7_spreadDread_51 : decode cX7_spreadDread 51 = .ok (.iload 4, 2) := by decide +kernel
theorem dX7_spreadDread_53 : decode cX7_spreadDread 53 = .ok (.invokestatic 122, 3) := by decide +kernel
theorem dX7_spreadDread_56 : decode cX7_spreadDread 56 = .ok (.ifCond .eq 21, 3) := by decide +kernel
theorem dX7_spreadDread_59 : decode cX7_spreadDread 59 = .ok (.aload_n 0, 1) := by decide +kernel
theorem dX7_spreadDread_60 : decode cX7_spreadDread 60 = .ok (.aload_n 1, 1) := by decide +kernel
theorem dX7_spreadDread_61 : decode cX7_spreadDread 61 = .ok (.aload_n 2, 1) := by decide +kernel
theorem dX7_spreadDread_62 : decode cX7_spreadDread 62 = .ok (.iload_n 3, 1) := by decide +kernel
theorem dX7_spreadDread_63 : decode cX7_spreadDread 63 = .ok (.iload 4, 2) := by decide +kernel
theorem dX7_spreadDread_65 : decode cX7_spreadDread 65 = .ok (.invokevirtual 125, 3) := by decide +kernel
theorem dX7_spreadDread_68 : decode cX7_spreadDread 68 = .ok (.aload_n 0, 1) := by decide +kernel
theorem dX7_spreadDread_69 : decode cX7_spreadDread 69 = .ok (.aload_n 1, 1) := by decide +kernel
theorem dX7_spreadDread_70 : decode cX7_spreadDread 70 = .ok (.aload_n 2, 1) := by decide +kernel
theorem dX7_spreadDread_71 : decode cX7_spreadDread 71 = .ok (.iload 4, 2) := by decide +kernel
theorem dX7_spreadDread_73 : decode cX7_spreadDread 73 = .ok (.iload_n 3, 1) := by decide +kernel
theorem dX7_spreadDread_74 : decode cX7_spreadDread 74 = .ok (.invokevirtual 125, 3) := by decide +kernel
theorem dX7_spreadDread_77 : decode cX7_spreadDread 77 = .ok (.iinc 4 1, 3) := by decide +kernel
theorem dX7_spreadDread_80 : decode cX7_spreadDread 80 = .ok (.goto (-41), 3) := by decide +kernel
theorem dX7_spreadDread_83 : decode cX7_spreadDread 83 = .ok (.iinc 3 1, 3) := by decide +kernel
theorem dX7_spreadDread_86 : decode cX7_spreadDread 86 = .ok (.goto (-58), 3) := by decide +kernel
theorem dX7_spreadDread_89 : decode cX7_spreadDread 89 = .ok (.return_, 1) := by decide +kernel
theorem dX9_init_0 : decode cX9_init 0 = .ok (.aload_n 0, 1) := by decide +kernel
theorem dX9_init_1 : decode cX9_init 1 = .ok (.invokespecial 3, 3) := by decide +kernel
theorem dX9_init_4 : decode cX9_init 4 = .ok (.aload_n 0, 1) := by decide +kernel
theorem dX9_init_5 : decode cX9_init 5 = .ok (.bipush 6, 2) := by decide +kernel
theorem dX9_init_7 : decode cX9_init 7 = .ok (.newarray .int, 2) := by decide +kernel
theorem dX9_init_9 : decode cX9_init 9 = .ok (.putfield 9, 3) := by decide +kernel
theorem dX9_init_12 : decode cX9_init 12 = .ok (.aload_n 0, 1) := by decide +kernel
theorem dX9_init_13 : decode cX9_init 13 = .ok (.sipush 129, 3) := by decide +kernel
theorem dX9_init_16 : decode cX9_init 16 = .ok (.newarray .long, 2) := by decide +kernel
theorem dX9_init_18 : decode cX9_init 18 = .ok (.putfield 15, 3) := by decide +kernel
theorem dX9_init_21 : decode cX9_init 21 = .ok (.return_, 1) := by decide +kernel
theorem dX9_wordsWeighing_0 : decode cX9_wordsWeighing 0 = .ok (.iconst 0, 1) := by decide +kernel
theorem dX9_wordsWeighing_1 : decode cX9_wordsWeighing 1 = .ok (.istore 4, 2) := by decide +kernel
theorem dX9_wordsWeighing_3 : decode cX9_wordsWeighing 3 = .ok (.iload 4, 2) := by decide +kernel
theorem dX9_wordsWeighing_5 : decode cX9_wordsWeighing 5 = .ok (.aload_n 0, 1) := by decide +kernel
theorem dX9_wordsWeighing_6 : decode cX9_wordsWeighing 6 = .ok (.getfield 15, 3) := by decide +kernel
theorem dX9_wordsWeighing_9 : decode cX9_wordsWeighing 9 = .ok (.arraylength, 1) := by decide +kernel
theorem dX9_wordsWeighing_10 : decode cX9_wordsWeighing 10 = .ok (.if_icmp .ge 17, 3) := by decide +kernel
theorem dX9_wordsWeighing_13 : decode cX9_wordsWeighing 13 = .ok (.aload_n 0, 1) := by decide +kernel
theorem dX9_wordsWeighing_14 : decode cX9_wordsWeighing 14 = .ok (.getfield 15, 3) := by decide +kernel
theorem dX9_wordsWeighing_17 : decode cX9_wordsWeighing 17 = .ok (.iload 4, 2) := by decide +kernel
theorem dX9_wordsWeighing_19 : decode cX9_wordsWeighing 19 = .ok (.lconst 0, 1) := by decide +kernel
theorem dX9_wordsWeighing_20 : decode cX9_wordsWeighing 20 = .ok (.lastore, 1) := by decide +kernel
theorem dX9_wordsWeighing_21 : decode cX9_wordsWeighing 21 = .ok (.iinc 4 1, 3) := by decide +kernel
theorem dX9_wordsWeighing_24 : decode cX9_wordsWeighing 24 = .ok (.goto (-21), 3) := by decide +kernel
theorem dX9_wordsWeighing_27 : decode cX9_wordsWeighing 27 = .ok (.aload_n 0, 1) := by decide +kernel
theorem dX9_wordsWeighing_28 : decode cX9_wordsWeighing 28 = .ok (.getfield 15, 3) := by decide +kernel
theorem dX9_wordsWeighing_31 : decode cX9_wordsWeighing 31 = .ok (.iconst 0, 1) := by decide +kernel
theorem dX9_wordsWeighing_32 : decode cX9_wordsWeighing 32 = .ok (.lconst 1, 1) := by decide +kernel
theorem dX9_wordsWeighing_33 : decode cX9_wordsWeighing 33 = .ok (.lastore, 1) := by decide +kernel
theorem dX9_wordsWeighing_34 : decode cX9_wordsWeighing 34 = .ok (.iconst 0, 1) := by decide +kernel
theorem dX9_wordsWeighing_35 : decode cX9_wordsWeighing 35 = .ok (.istore 4, 2) := by decide +kernel
theorem dX9_wordsWeighing_37 : decode cX9_wordsWeighing 37 = .ok (.iload 4, 2) := by decide +kernel
theorem dX9_wordsWeighing_39 : decode cX9_wordsWeighing 39 = .ok (.iload_n 1, 1) := by decide +kernel
theorem dX9_wordsWeighing_40 : decode cX9_wordsWeighing 40 = .ok (.if_icmp .ge 43, 3) := by decide +kernel
theorem dX9_wordsWeighing_43 : decode cX9_wordsWeighing 43 = .ok (.aload_n 0, 1) := by decide +kernel
theorem dX9_wordsWeighing_44 : decode cX9_wordsWeighing 44 = .ok (.getfield 15, 3) := by decide +kernel
theorem dX9_wordsWeighing_47 : decode cX9_wordsWeighing 47 = .ok (.arraylength, 1) := by decide +kernel
theorem dX9_wordsWeighing_48 : decode cX9_wordsWeighing 48 = .ok (.iconst 1, 1) := by decide +kernel
theorem dX9_wordsWeighing_49 : decode cX9_wordsWeighing 49 = .ok (.isub, 1) := by decide +kernel
theorem dX9_wordsWeighing_50 : decode cX9_wordsWeighing 50 = .ok (.istore 5, 2) := by decide +kernel
theorem dX9_wordsWeighing_52 : decode cX9_wordsWeighing 52 = .ok (.iload 5, 2) := by decide +kernel
theorem dX9_wordsWeighing_54 : decode cX9_wordsWeighing 54 = .ok (.ifCond .lt 23, 3) := by decide +kernel
theorem dX9_wordsWeighing_57 : decode cX9_wordsWeighing 57 = .ok (.aload_n 0, 1) := by decide +kernel
theorem dX9_wordsWeighing_58 : decode cX9_wordsWeighing 58 = .ok (.getfield 15, 3) := by decide +kernel
theorem dX9_wordsWeighing_61 : decode cX9_wordsWeighing 61 = .ok (.iload 5, 2) := by decide +kernel
theorem dX9_wordsWeighing_63 : decode cX9_wordsWeighing 63 = .ok (.aload_n 0, 1) := by decide +kernel
theorem dX9_wordsWeighing_64 : decode cX9_wordsWeighing 64 = .ok (.iload_n 2, 1) := by decide +kernel
theorem dX9_wordsWeighing_65 : decode cX9_wordsWeighing 65 = .ok (.iload 5, 2) := by decide +kernel
theorem dX9_wordsWeighing_67 : decode cX9_wordsWeighing 67 = .ok (.invokevirtual 51, 3) := by decide +kernel
theorem dX9_wordsWeighing_70 : decode cX9_wordsWeighing 70 = .ok (.lastore, 1) := by decide +kernel
theorem dX9_wordsWeighing_71 : decode cX9_wordsWeighing 71 = .ok (.iinc 5 (-1), 3) := by decide +kernel
theorem dX9_wordsWeighing_74 : decode cX9_wordsWeighing 74 = .ok (.goto (-22), 3) := by decide +kernel
theorem dX9_wordsWeighing_77 : decode cX9_wordsWeighing 77 = .ok (.iinc 4 1, 3) := by decide +kernel
theorem dX9_wordsWeighing_80 : decode cX9_wordsWeighing 80 = .ok (.goto (-43), 3) := by decide +kernel
theorem dX9_wordsWeighing_83 : decode cX9_wordsWeighing 83 = .ok (.iload_n 3, 1) := by decide +kernel
theorem dX9_wordsWeighing_84 : decode cX9_wordsWeighing 84 = .ok (.ifCond .lt 21, 3) := by decide +kernel
theorem dX9_wordsWeighing_87 : decode cX9_wordsWeighing 87 = .ok (.iload_n 3, 1) := by decide +kernel
theorem dX9_wordsWeighing_88 : decode cX9_wordsWeighing 88 = .ok (.aload_n 0, 1) := by decide +kernel
theorem dX9_wordsWeighing_89 : decode cX9_wordsWeighing 89 = .ok (.getfield 15, 3) := by decide +kernel
theorem dX9_wordsWeighing_92 : decode cX9_wordsWeighing 92 = .ok (.arraylength, 1) := by decide +kernel
theorem dX9_wordsWeighing_93 : decode cX9_wordsWeighing 93 = .ok (.if_icmp .ge 12, 3) := by decide +kernel
theorem dX9_wordsWeighing_96 : decode cX9_wordsWeighing 96 = .ok (.aload_n 0, 1) := by decide +kernel
theorem dX9_wordsWeighing_97 : decode cX9_wordsWeighing 97 = .ok (.getfield 15, 3) := by decide +kernel
theorem dX9_wordsWeighing_100 : decode cX9_wordsWeighing 100 = .ok (.iload_n 3, 1) := by decide +kernel
theorem dX9_wordsWeighing_101 : decode cX9_wordsWeighing 101 = .ok (.laload, 1) := by decide +kernel
theorem dX9_wordsWeighing_102 : decode cX9_wordsWeighing 102 = .ok (.goto 4, 3) := by decide +kernel
theorem dX9_wordsWeighing_105 : decode cX9_wordsWeighing 105 = .ok (.lconst 0, 1) := by decide +kernel
theorem dX9_wordsWeighing_106 : decode cX9_wordsWeighing 106 = .ok (.lreturn, 1) := by decide +kernel
theorem dX9_wordsWithOneMore_0 : decode cX9_wordsWithOneMore 0 = .ok (.lconst 0, 1) := by decide +kernel
theorem dX9_wordsWithOneMore_1 : decode cX9_wordsWithOneMore 1 = .ok (.lstore_n 3, 1) := by decide +kernel
theorem dX9_wordsWithOneMore_2 : decode cX9_wordsWithOneMore 2 = .ok (.iconst 0, 1) := by decide +kernel
theorem dX9_wordsWithOneMore_3 : decode cX9_wordsWithOneMore 3 = .ok (.istore 5, 2) := by decide +kernel
theorem dX9_wordsWithOneMore_5 : decode cX9_wordsWithOneMore 5 = .ok (.iload 5, 2) := by decide +kernel
theorem dX9_wordsWithOneMore_7 : decode cX9_wordsWithOneMore 7 = .ok (.bipush 16, 2) := by decide +kernel
theorem dX9_wordsWithOneMore_9 : decode cX9_wordsWithOneMore 9 = .ok (.if_icmp .ge 51, 3) := by decide +kernel
theorem dX9_wordsWithOneMore_12 : decode cX9_wordsWithOneMore 12 = .ok (.iload_n 2, 1) := by decide +kernel
theorem dX9_wordsWithOneMore_13 : decode cX9_wordsWithOneMore 13 = .ok (.iload 5, 2) := by decide +kernel
theorem dX9_wordsWithOneMore_15 : decode cX9_wordsWithOneMore 15 = .ok (.iconst 1, 1) := by decide +kernel
theorem dX9_wordsWithOneMore_16 : decode cX9_wordsWithOneMore 16 = .ok (.iadd, 1) := by decide +kernel
theorem dX9_wordsWithOneMore_17 : decode cX9_wordsWithOneMore 17 = .ok (.isub, 1) := by decide +kernel
theorem dX9_wordsWithOneMore_18 : decode cX9_wordsWithOneMore 18 = .ok (.istore 6, 2) := by decide +kernel
theorem dX9_wordsWithOneMore_20 : decode cX9_wordsWithOneMore 20 = .ok (.iload_n 1, 1) := by decide +kernel
theorem dX9_wordsWithOneMore_21 : decode cX9_wordsWithOneMore 21 = .ok (.iload 5, 2) := by decide +kernel
theorem dX9_wordsWithOneMore_23 : decode cX9_wordsWithOneMore 23 = .ok (.invokestatic 31, 3) := by decide +kernel
theorem dX9_wordsWithOneMore_26 : decode cX9_wordsWithOneMore 26 = .ok (.ifCond .eq 28, 3) := by decide +kernel
theorem dX9_wordsWithOneMore_29 : decode cX9_wordsWithOneMore 29 = .ok (.iload 6, 2) := by decide +kernel
theorem dX9_wordsWithOneMore_31 : decode cX9_wordsWithOneMore 31 = .ok (.ifCond .lt 23, 3) := by decide +kernel
theorem dX9_wordsWithOneMore_34 : decode cX9_wordsWithOneMore 34 = .ok (.iload 6, 2) := by decide +kernel
theorem dX9_wordsWithOneMore_36 : decode cX9_wordsWithOneMore 36 = .ok (.aload_n 0, 1) := by decide +kernel
theorem dX9_wordsWithOneMore_37 : decode cX9_wordsWithOneMore 37 = .ok (.getfield 15, 3) := by decide +kernel
theorem dX9_wordsWithOneMore_40 : decode cX9_wordsWithOneMore 40 = .ok (.arraylength, 1) := by decide +kernel
theorem dX9_wordsWithOneMore_41 : decode cX9_wordsWithOneMore 41 = .ok (.if_icmp .ge 13, 3) := by decide +kernel
theorem dX9_wordsWithOneMore_44 : decode cX9_wordsWithOneMore 44 = .ok (.lload_n 3, 1) := by decide +kernel
theorem dX9_wordsWithOneMore_45 : decode cX9_wordsWithOneMore 45 = .ok (.aload_n 0, 1) := by decide +kernel
theorem dX9_wordsWithOneMore_46 : decode cX9_wordsWithOneMore 46 = .ok (.getfield 15, 3) := by decide +kernel
theorem dX9_wordsWithOneMore_49 : decode cX9_wordsWithOneMore 49 = .ok (.iload 6, 2) := by decide +kernel
theorem dX9_wordsWithOneMore_51 : decode cX9_wordsWithOneMore 51 = .ok (.laload, 1) := by decide +kernel
theorem dX9_wordsWithOneMore_52 : decode cX9_wordsWithOneMore 52 = .ok (.ladd, 1) := by decide +kernel
theorem dX9_wordsWithOneMore_53 : decode cX9_wordsWithOneMore 53 = .ok (.lstore_n 3, 1) := by decide +kernel
theorem dX9_wordsWithOneMore_54 : decode cX9_wordsWithOneMore 54 = .ok (.iinc 5 1, 3) := by decide +kernel
theorem dX9_wordsWithOneMore_57 : decode cX9_wordsWithOneMore 57 = .ok (.goto (-52), 3) := by decide +kernel
theorem dX9_wordsWithOneMore_60 : decode cX9_wordsWithOneMore 60 = .ok (.lload_n 3, 1) := by decide +kernel
theorem dX9_wordsWithOneMore_61 : decode cX9_wordsWithOneMore 61 = .ok (.lreturn, 1) := by decide +kernel
theorem dX10_init_0 : decode cX10_init 0 = .ok (.aload_n 0, 1) := by decide +kernel
theorem dX10_init_1 : decode cX10_init 1 = .ok (.invokespecial 3, 3) := by decide +kernel
theorem dX10_init_4 : decode cX10_init 4 = .ok (.aload_n 0, 1) := by decide +kernel
theorem dX10_init_5 : decode cX10_init 5 = .ok (.sipush 260, 3) := by decide +kernel
theorem dX10_init_8 : decode cX10_init 8 = .ok (.newarray .int, 2) := by decide +kernel
theorem dX10_init_10 : decode cX10_init 10 = .ok (.putfield 9, 3) := by decide +kernel
theorem dX10_init_13 : decode cX10_init 13 = .ok (.aload_n 0, 1) := by decide +kernel
theorem dX10_init_14 : decode cX10_init 14 = .ok (.iconst 0, 1) := by decide +kernel
theorem dX10_init_15 : decode cX10_init 15 = .ok (.putfield 15, 3) := by decide +kernel
theorem dX10_init_18 : decode cX10_init 18 = .ok (.aload_n 0, 1) := by decide +kernel
theorem dX10_init_19 : decode cX10_init 19 = .ok (.iconst 0, 1) := by decide +kernel
theorem dX10_init_20 : decode cX10_init 20 = .ok (.putfield 19, 3) := by decide +kernel
theorem dX10_init_23 : decode cX10_init 23 = .ok (.aload_n 0, 1) := by decide +kernel
theorem dX10_init_24 : decode cX10_init 24 = .ok (.iconst 0, 1) := by decide +kernel
theorem dX10_init_25 : decode cX10_init 25 = .ok (.putfield 22, 3) := by decide +kernel
theorem dX10_init_28 : decode cX10_init 28 = .ok (.aload_n 0, 1) := by decide +kernel
theorem dX10_init_29 : decode cX10_init 29 = .ok (.iconst 0, 1) := by decide +kernel
theorem dX10_init_30 : decode cX10_init 30 = .ok (.putfield 25, 3) := by decide +kernel
theorem dX10_init_33 : decode cX10_init 33 = .ok (.return_, 1) := by decide +kernel
theorem dX10_append_0 : decode cX10_append 0 = .ok (.bipush 24, 2) := by decide +kernel
theorem dX10_append_2 : decode cX10_append 2 = .ok (.istore_n 2, 1) := by decide +kernel
theorem dX10_append_3 : decode cX10_append 3 = .ok (.iload_n 2, 1) := by decide +kernel
theorem dX10_append_4 : decode cX10_append 4 = .ok (.ifCond .lt 54, 3) := by decide +kernel
theorem dX10_append_7 : decode cX10_append 7 = .ok (.aload_n 0, 1) := by decide +kernel
theorem dX10_append_8 : decode cX10_append 8 = .ok (.getfield 15, 3) := by decide +kernel
theorem dX10_append_11 : decode cX10_append 11 = .ok (.ifCond .lt 41, 3) := by decide +kernel
theorem dX10_append_14 : decode cX10_append 14 = .ok (.aload_n 0, 1) := by decide +kernel
theorem dX10_append_15 : decode cX10_append 15 = .ok (.getfield 15, 3) := by decide +kernel
theorem dX10_append_18 : decode cX10_append 18 = .ok (.aload_n 0, 1) := by decide +kernel
theorem dX10_append_19 : decode cX10_append 19 = .ok (.getfield 9, 3) := by decide +kernel
theorem dX10_append_22 : decode cX10_append 22 = .ok (.arraylength, 1) := by decide +kernel
theorem dX10_append_23 : decode cX10_append 23 = .ok (.if_icmp .ge 29, 3) := by decide +kernel
theorem dX10_append_26 : decode cX10_append 26 = .ok (.aload_n 0, 1) := by decide +kernel
theorem dX10_append_27 : decode cX10_append 27 = .ok (.getfield 9, 3) := by decide +kernel
theorem dX10_append_30 : decode cX10_append 30 = .ok (.aload_n 0, 1) := by decide +kernel
theorem dX10_append_31 : decode cX10_append 31 = .ok (.getfield 15, 3) := by decide +kernel
theorem dX10_append_34 : decode cX10_append 34 = .ok (.iload_n 1, 1) := by decide +kernel
theorem dX10_append_35 : decode cX10_append 35 = .ok (.iload_n 2, 1) := by decide +kernel
theorem dX10_append_36 : decode cX10_append 36 = .ok (.ishr, 1) := by decide +kernel
theorem dX10_append_37 : decode cX10_append 37 = .ok (.sipush 255, 3) := by decide +kernel
theorem dX10_append_40 : decode cX10_append 40 = .ok (.iand, 1) := by decide +kernel
theorem dX10_append_41 : decode cX10_append 41 = .ok (.iastore, 1) := by decide +kernel
theorem dX10_append_42 : decode cX10_append 42 = .ok (.aload_n 0, 1) := by decide +kernel
theorem dX10_append_43 : decode cX10_append 43 = .ok (.dup, 1) := by decide +kernel
theorem dX10_append_44 : decode cX10_append 44 = .ok (.getfield 15, 3) := by decide +kernel
theorem dX10_append_47 : decode cX10_append 47 = .ok (.iconst 1, 1) := by decide +kernel
theorem dX10_append_48 : decode cX10_append 48 = .ok (.iadd, 1) := by decide +kernel
theorem dX10_append_49 : decode cX10_append 49 = .ok (.putfield 15, 3) := by decide +kernel
theorem dX10_append_52 : decode cX10_append 52 = .ok (.iinc 2 (-8), 3) := by decide +kernel
theorem dX10_append_55 : decode cX10_append 55 = .ok (.goto (-52), 3) := by decide +kernel
theorem dX10_append_58 : decode cX10_append 58 = .ok (.return_, 1) := by decide +kernel
theorem dX10_holds_0 : decode cX10_holds 0 = .ok (.iload_n 1, 1) := by decide +kernel
theorem dX10_holds_1 : decode cX10_holds 1 = .ok (.iload_n 2, 1) := by decide +kernel
theorem dX10_holds_2 : decode cX10_holds 2 = .ok (.if_icmp .lt 20, 3) := by decide +kernel
theorem dX10_holds_5 : decode cX10_holds 5 = .ok (.iload_n 1, 1) := by decide +kernel
theorem dX10_holds_6 : decode cX10_holds 6 = .ok (.iload_n 3, 1) := by decide +kernel
theorem dX10_holds_7 : decode cX10_holds 7 = .ok (.if_icmp .gt 15, 3) := by decide +kernel
theorem dX10_holds_10 : decode cX10_holds 10 = .ok (.iload_n 1, 1) := by decide +kernel
theorem dX10_holds_11 : decode cX10_holds 11 = .ok (.aload_n 0, 1) := by decide +kernel
theorem dX10_holds_12 : decode cX10_holds 12 = .ok (.getfield 15, 3) := by decide +kernel
theorem dX10_holds_15 : decode cX10_holds 15 = .ok (.if_icmp .gt 7, 3) := by decide +kernel
theorem dX10_holds_18 : decode cX10_holds 18 = .ok (.iconst 1, 1) := by decide +kernel
theorem dX10_holds_19 : decode cX10_holds 19 = .ok (.goto 4, 3) := by decide +kernel
theorem dX10_holds_22 : decode cX10_holds 22 = .ok (.iconst 0, 1) := by decide +kernel
theorem dX10_holds_23 : decode cX10_holds 23 = .ok (.ireturn, 1) := by decide +kernel
theorem dX10_take_0 : decode cX10_take 0 = .ok (.aload_n 0, 1) := by decide +kernel
theorem dX10_take_1 : decode cX10_take 1 = .ok (.iload_n 1, 1) := by decide +kernel
theorem dX10_take_2 : decode cX10_take 2 = .ok (.putfield 19, 3) := by decide +kernel
theorem dX10_take_5 : decode cX10_take 5 = .ok (.aload_n 0, 1) := by decide +kernel
theorem dX10_take_6 : decode cX10_take 6 = .ok (.iconst 0, 1) := by decide +kernel
theorem dX10_take_7 : decode cX10_take 7 = .ok (.putfield 22, 3) := by decide +kernel
theorem dX10_take_10 : decode cX10_take 10 = .ok (.aload_n 0, 1) := by decide +kernel
theorem dX10_take_11 : decode cX10_take 11 = .ok (.iconst 0, 1) := by decide +kernel
theorem dX10_take_12 : decode cX10_take 12 = .ok (.putfield 25, 3) := by decide +kernel
theorem dX10_take_15 : decode cX10_take 15 = .ok (.aload_n 0, 1) := by decide +kernel
theorem dX10_take_16 : decode cX10_take 16 = .ok (.iconst 0, 1) := by decide +kernel
theorem dX10_take_17 : decode cX10_take 17 = .ok (.putfield 15, 3) := by decide +kernel
theorem dX10_take_20 : decode cX10_take 20 = .ok (.return_, 1) := by decide +kernel
theorem dX11_init_0 : decode cX11_init 0 = .ok (.aload_n 0, 1) := by decide +kernel
theorem dX11_init_1 : decode cX11_init 1 = .ok (.invokespecial 3, 3) := by decide +kernel
theorem dX11_init_4 : decode cX11_init 4 = .ok (.aload_n 0, 1) := by decide +kernel
theorem dX11_init_5 : decode cX11_init 5 = .ok (.new 9, 3) := by decide +kernel
theorem dX11_init_8 : decode cX11_init 8 = .ok (.dup, 1) := by decide +kernel
theorem dX11_init_9 : decode cX11_init 9 = .ok (.invokespecial 11, 3) := by decide +kernel
theorem dX11_init_12 : decode cX11_init 12 = .ok (.putfield 12, 3) := by decide +kernel
theorem dX11_init_15 : decode cX11_init 15 = .ok (.aload_n 0, 1) := by decide +kernel
theorem dX11_init_16 : decode cX11_init 16 = .ok (.new 16, 3) := by decide +kernel
theorem dX11_init_19 : decode cX11_init 19 = .ok (.dup, 1) := by decide +kernel
theorem dX11_init_20 : decode cX11_init 20 = .ok (.invokespecial 18, 3) := by decide +kernel
theorem dX11_init_23 : decode cX11_init 23 = .ok (.putfield 19, 3) := by decide +kernel
theorem dX11_init_26 : decode cX11_init 26 = .ok (.aload_n 0, 1) := by decide +kernel
theorem dX11_init_27 : decode cX11_init 27 = .ok (.new 16, 3) := by decide +kernel
theorem dX11_init_30 : decode cX11_init 30 = .ok (.dup, 1) := by decide +kernel
theorem dX11_init_31 : decode cX11_init 31 = .ok (.invokespecial 18, 3) := by decide +kernel
theorem dX11_init_34 : decode cX11_init 34 = .ok (.putfield 23, 3) := by decide +kernel
theorem dX11_init_37 : decode cX11_init 37 = .ok (.aload_n 0, 1) := by decide +kernel
theorem dX11_init_38 : decode cX11_init 38 = .ok (.new 16, 3) := by decide +kernel
theorem dX11_init_41 : decode cX11_init 41 = .ok (.dup, 1) := by decide +kernel
theorem dX11_init_42 : decode cX11_init 42 = .ok (.invokespecial 18, 3) := by decide +kernel
theorem dX11_init_45 : decode cX11_init 45 = .ok (.putfield 26, 3) := by decide +kernel
theorem dX11_init_48 : decode cX11_init 48 = .ok (.aload_n 0, 1) := by decide +kernel
theorem dX11_init_49 : decode cX11_init 49 = .ok (.iconst 0, 1) := by decide +kernel
theorem dX11_init_50 : decode cX11_init 50 = .ok (.putfield 29, 3) := by decide +kernel
theorem dX11_init_53 : decode cX11_init 53 = .ok (.aload_n 0, 1) := by decide +kernel
theorem dX11_init_54 : decode cX11_init 54 = .ok (.new 33, 3) := by decide +kernel
theorem dX11_init_57 : decode cX11_init 57 = .ok (.dup, 1) := by decide +kernel
theorem dX11_init_58 : decode cX11_init 58 = .ok (.invokespecial 35, 3) := by decide +kernel
theorem dX11_init_61 : decode cX11_init 61 = .ok (.putfield 36, 3) := by decide +kernel
theorem dX11_init_64 : decode cX11_init 64 = .ok (.aload_n 0, 1) := by decide +kernel
theorem dX11_init_65 : decode cX11_init 65 = .ok (.new 33, 3) := by decide +kernel
theorem dX11_init_68 : decode cX11_init 68 = .ok (.dup, 1) := by decide +kernel
theorem dX11_init_69 : decode cX11_init 69 = .ok (.invokespecial 35, 3) := by decide +kernel
theorem dX11_init_72 : decode cX11_init 72 = .ok (.putfield 40, 3) := by decide +kernel
theorem dX11_init_75 : decode cX11_init 75 = .ok (.aload_n 0, 1) := by decide +kernel
theorem dX11_init_76 : decode cX11_init 76 = .ok (.new 43, 3) := by decide +kernel
theorem dX11_init_79 : decode cX11_init 79 = .ok (.dup, 1) := by decide +kernel
theorem dX11_init_80 : decode cX11_init 80 = .ok (.invokespecial 45, 3) := by decide +kernel
theorem dX11_init_83 : decode cX11_init 83 = .ok (.putfield 46, 3) := by decide +kernel
theorem dX11_init_86 : decode cX11_init 86 = .ok (.aload_n 0, 1) := by decide +kernel
theorem dX11_init_87 : decode cX11_init 87 = .ok (.new 50, 3) := by decide +kernel
theorem dX11_init_90 : decode cX11_init 90 = .ok (.dup, 1) := by decide +kernel
theorem dX11_init_91 : decode cX11_init 91 = .ok (.invokespecial 52, 3) := by decide +kernel
theorem dX11_init_94 : decode cX11_init 94 = .ok (.putfield 53, 3) := by decide +kernel
theorem dX11_init_97 : decode cX11_init 97 = .ok (.aload_n 0, 1) := by decide +kernel
theorem dX11_init_98 : decode cX11_init 98 = .ok (.new 57, 3) := by decide +kernel
theorem dX11_init_101 : decode cX11_init 101 = .ok (.dup, 1) := by decide +kernel
theorem dX11_init_102 : decode cX11_init 102 = .ok (.invokespecial 59, 3) := by decide +kernel
theorem dX11_init_105 : decode cX11_init 105 = .ok (.putfield 60, 3) := by decide +kernel
theorem dX11_init_108 : decode cX11_init 108 = .ok (.aload_n 0, 1) := by decide +kernel
theorem dX11_init_109 : decode cX11_init 109 = .ok (.new 64, 3) := by decide +kernel
theorem dX11_init_112 : decode cX11_init 112 = .ok (.dup, 1) := by decide +kernel
theorem dX11_init_113 : decode cX11_init 113 = .ok (.invokespecial 66, 3) := by decide +kernel
theorem dX11_init_116 : decode cX11_init 116 = .ok (.putfield 67, 3) := by decide +kernel
theorem dX11_init_119 : decode cX11_init 119 = .ok (.return_, 1) := by decide +kernel
theorem dX11_feed_0 : decode cX11_feed 0 = .ok (.aload_n 0, 1) := by decide +kernel
theorem dX11_feed_1 : decode cX11_feed 1 = .ok (.getfield 12, 3) := by decide +kernel
theorem dX11_feed_4 : decode cX11_feed 4 = .ok (.getfield 71, 3) := by decide +kernel
theorem dX11_feed_7 : decode cX11_feed 7 = .ok (.sipush 240, 3) := by decide +kernel
theorem dX11_feed_10 : decode cX11_feed 10 = .ok (.if_icmp .le 5, 3) := by decide +kernel
theorem dX11_feed_13 : decode cX11_feed 13 = .ok (.iconst (-1), 1) := by decide +kernel
theorem dX11_feed_14 : decode cX11_feed 14 = .ok (.ireturn, 1) := by decide +kernel
theorem dX11_feed_15 : decode cX11_feed 15 = .ok (.aload_n 0, 1) := by decide +kernel
theorem dX11_feed_16 : decode cX11_feed 16 = .ok (.getfield 12, 3) := by decide +kernel
theorem dX11_feed_19 : decode cX11_feed 19 = .ok (.iload_n 1, 1) := by decide +kernel
theorem dX11_feed_20 : decode cX11_feed 20 = .ok (.invokevirtual 75, 3) := by decide +kernel
theorem dX11_feed_23 : decode cX11_feed 23 = .ok (.aload_n 0, 1) := by decide +kernel
theorem dX11_feed_24 : decode cX11_feed 24 = .ok (.getfield 12, 3) := by decide +kernel
theorem dX11_feed_27 : decode cX11_feed 27 = .ok (.iload_n 2, 1) := by decide +kernel
theorem dX11_feed_28 : decode cX11_feed 28 = .ok (.invokevirtual 75, 3) := by decide +kernel
theorem dX11_feed_31 : decode cX11_feed 31 = .ok (.aload_n 0, 1) := by decide +kernel
theorem dX11_feed_32 : decode cX11_feed 32 = .ok (.getfield 12, 3) := by decide +kernel
theorem dX11_feed_35 : decode cX11_feed 35 = .ok (.iload_n 3, 1) := by decide +kernel
theorem dX11_feed_36 : decode cX11_feed 36 = .ok (.invokevirtual 75, 3) := by decide +kernel
theorem dX11_feed_39 : decode cX11_feed 39 = .ok (.aload_n 0, 1) := by decide +kernel
theorem dX11_feed_40 : decode cX11_feed 40 = .ok (.getfield 12, 3) := by decide +kernel
theorem dX11_feed_43 : decode cX11_feed 43 = .ok (.iload 4, 2) := by decide +kernel
theorem dX11_feed_45 : decode cX11_feed 45 = .ok (.invokevirtual 75, 3) := by decide +kernel
theorem dX11_feed_48 : decode cX11_feed 48 = .ok (.aload_n 0, 1) := by decide +kernel
theorem dX11_feed_49 : decode cX11_feed 49 = .ok (.getfield 12, 3) := by decide +kernel
theorem dX11_feed_52 : decode cX11_feed 52 = .ok (.iload 5, 2) := by decide +kernel
theorem dX11_feed_54 : decode cX11_feed 54 = .ok (.invokevirtual 75, 3) := by decide +kernel
theorem dX11_feed_57 : decode cX11_feed 57 = .ok (.aload_n 0, 1) := by decide +kernel
theorem dX11_feed_58 : decode cX11_feed 58 = .ok (.getfield 12, 3) := by decide +kernel
theorem dX11_feed_61 : decode cX11_feed 61 = .ok (.getfield 71, 3) := by decide +kernel
theorem dX11_feed_64 : decode cX11_feed 64 = .ok (.ireturn, 1) := by decide +kernel
theorem dX11_law_0 : decode cX11_law 0 = .ok (.aload_n 0, 1) := by decide +kernel
theorem dX11_law_1 : decode cX11_law 1 = .ok (.getfield 12, 3) := by decide +kernel
theorem dX11_law_4 : decode cX11_law 4 = .ok (.iload_n 1, 1) := by decide +kernel
theorem dX11_law_5 : decode cX11_law 5 = .ok (.iconst 1, 1) := by decide +kernel
theorem dX11_law_6 : decode cX11_law 6 = .ok (.sipush 240, 3) := by decide +kernel
theorem dX11_law_9 : decode cX11_law 9 = .ok (.invokevirtual 79, 3) := by decide +kernel
theorem dX11_law_12 : decode cX11_law 12 = .ok (.ifCond .ne 5, 3) := by decide +kernel
theorem dX11_law_15 : decode cX11_law 15 = .ok (.iconst (-1), 1) := by decide +kernel
theorem dX11_law_16 : decode cX11_law 16 = .ok (.ireturn, 1) := by decide +kernel
theorem dX11_law_17 : decode cX11_law 17 = .ok (.aload_n 0, 1) := by decide +kernel
theorem dX11_law_18 : decode cX11_law 18 = .ok (.getfield 12, 3) := by decide +kernel
theorem dX11_law_21 : decode cX11_law 21 = .ok (.iload_n 1, 1) := by decide +kernel
theorem dX11_law_22 : decode cX11_law 22 = .ok (.invokevirtual 83, 3) := by decide +kernel
theorem dX11_law_25 : decode cX11_law 25 = .ok (.aload_n 0, 1) := by decide +kernel
theorem dX11_law_26 : decode cX11_law 26 = .ok (.getfield 40, 3) := by decide +kernel
theorem dX11_law_29 : decode cX11_law 29 = .ok (.invokevirtual 86, 3) := by decide +kernel
theorem dX11_law_32 : decode cX11_law 32 = .ok (.new 89, 3) := by decide +kernel
theorem dX11_law_35 : decode cX11_law 35 = .ok (.dup, 1) := by decide +kernel
theorem dX11_law_36 : decode cX11_law 36 = .ok (.aload_n 0, 1) := by decide +kernel
theorem dX11_law_37 : decode cX11_law 37 = .ok (.getfield 12, 3) := by decide +kernel
theorem dX11_law_40 : decode cX11_law 40 = .ok (.aload_n 0, 1) := by decide +kernel
theorem dX11_law_41 : decode cX11_law 41 = .ok (.getfield 40, 3) := by decide +kernel
theorem dX11_law_44 : decode cX11_law 44 = .ok (.invokespecial 91, 3) := by decide +kernel
theorem dX11_law_47 : decode cX11_law 47 = .ok (.bipush 16, 2) := by decide +kernel
theorem dX11_law_49 : decode cX11_law 49 = .ok (.invokevirtual 94, 3) := by decide +kernel
theorem dX11_law_52 : decode cX11_law 52 = .ok (.istore_n 2, 1) := by decide +kernel
theorem dX11_law_53 : decode cX11_law 53 = .ok (.iload_n 2, 1) := by decide +kernel
theorem dX11_law_54 : decode cX11_law 54 = .ok (.ifCond .le 21, 3) := by decide +kernel
theorem dX11_law_57 : decode cX11_law 57 = .ok (.aload_n 0, 1) := by decide +kernel
theorem dX11_law_58 : decode cX11_law 58 = .ok (.getfield 36, 3) := by decide +kernel
theorem dX11_law_61 : decode cX11_law 61 = .ok (.astore_n 3, 1) := by decide +kernel
theorem dX11_law_62 : decode cX11_law 62 = .ok (.aload_n 0, 1) := by decide +kernel
theorem dX11_law_63 : decode cX11_law 63 = .ok (.aload_n 0, 1) := by decide +kernel
theorem dX11_law_64 : decode cX11_law 64 = .ok (.getfield 40, 3) := by decide +kernel
theorem dX11_law_67 : decode cX11_law 67 = .ok (.putfield 36, 3) := by decide +kernel
theorem dX11_law_70 : decode cX11_law 70 = .ok (.aload_n 0, 1) := by decide +kernel
theorem dX11_law_71 : decode cX11_law 71 = .ok (.aload_n 3, 1) := by decide +kernel
theorem dX11_law_72 : decode cX11_law 72 = .ok (.putfield 40, 3) := by decide +kernel
theorem dX11_law_75 : decode cX11_law 75 = .ok (.iload_n 2, 1) := by decide +kernel
theorem dX11_law_76 : decode cX11_law 76 = .ok (.ireturn, 1) := by decide +kernel
theorem dX11_dreads_0 : decode cX11_dreads 0 = .ok (.iload_n 1, 1) := by decide +kernel
theorem dX11_dreads_1 : decode cX11_dreads 1 = .ok (.ifCond .lt 23, 3) := by decide +kernel
theorem dX11_dreads_4 : decode cX11_dreads 4 = .ok (.iload_n 1, 1) := by decide +kernel
theorem dX11_dreads_5 : decode cX11_dreads 5 = .ok (.bipush 12, 2) := by decide +kernel
theorem dX11_dreads_7 : decode cX11_dreads 7 = .ok (.if_icmp .ge 17, 3) := by decide +kernel
theorem dX11_dreads_10 : decode cX11_dreads 10 = .ok (.aload_n 0, 1) := by decide +kernel
theorem dX11_dreads_11 : decode cX11_dreads 11 = .ok (.getfield 12, 3) := by decide +kernel
theorem dX11_dreads_14 : decode cX11_dreads 14 = .ok (.iload_n 2, 1) := by decide +kernel
theorem dX11_dreads_15 : decode cX11_dreads 15 = .ok (.iconst 1, 1) := by decide +kernel
theorem dX11_dreads_16 : decode cX11_dreads 16 = .ok (.bipush 120, 2) := by decide +kernel
theorem dX11_dreads_18 : decode cX11_dreads 18 = .ok (.invokevirtual 79, 3) := by decide +kernel
theorem dX11_dreads_21 : decode cX11_dreads 21 = .ok (.ifCond .ne 5, 3) := by decide +kernel
theorem dX11_dreads_24 : decode cX11_dreads 24 = .ok (.iconst (-1), 1) := by decide +kernel
theorem dX11_dreads_25 : decode cX11_dreads 25 = .ok (.ireturn, 1) := by decide +kernel
theorem dX11_dreads_26 : decode cX11_dreads 26 = .ok (.aload_n 0, 1) := by decide +kernel
theorem dX11_dreads_27 : decode cX11_dreads 27 = .ok (.getfield 12, 3) := by decide +kernel
theorem dX11_dreads_30 : decode cX11_dreads 30 = .ok (.iload_n 2, 1) := by decide +kernel
theorem dX11_dreads_31 : decode cX11_dreads 31 = .ok (.invokevirtual 83, 3) := by decide +kernel
theorem dX11_dreads_34 : decode cX11_dreads 34 = .ok (.aload_n 0, 1) := by decide +kernel
theorem dX11_dreads_35 : decode cX11_dreads 35 = .ok (.getfield 23, 3) := by decide +kernel
theorem dX11_dreads_38 : decode cX11_dreads 38 = .ok (.aload_n 0, 1) := by decide +kernel
theorem dX11_dreads_39 : decode cX11_dreads 39 = .ok (.getfield 19, 3) := by decide +kernel
theorem dX11_dreads_42 : decode cX11_dreads 42 = .ok (.invokevirtual 98, 3) := by decide +kernel
theorem dX11_dreads_45 : decode cX11_dreads 45 = .ok (.new 102, 3) := by decide +kernel
theorem dX11_dreads_48 : decode cX11_dreads 48 = .ok (.dup, 1) := by decide +kernel
theorem dX11_dreads_49 : decode cX11_dreads 49 = .ok (.aload_n 0, 1) := by decide +kernel
theorem dX11_dreads_50 : decode cX11_dreads 50 = .ok (.getfield 12, 3) := by decide +kernel
theorem dX11_dreads_53 : decode cX11_dreads 53 = .ok (.aload_n 0, 1) := by decide +kernel
theorem dX11_dreads_54 : decode cX11_dreads 54 = .ok (.getfield 23, 3) := by decide +kernel
theorem dX11_dreads_57 : decode cX11_dreads 57 = .ok (.iload_n 1, 1) := by decide +kernel
theorem dX11_dreads_58 : decode cX11_dreads 58 = .ok (.invokespecial 104, 3) := by decide +kernel
theorem dX11_dreads_61 : decode cX11_dreads 61 = .ok (.bipush 20, 2) := by decide +kernel
theorem dX11_dreads_63 : decode cX11_dreads 63 = .ok (.invokevirtual 107, 3) := by decide +kernel
theorem dX11_dreads_66 : decode cX11_dreads 66 = .ok (.istore_n 3, 1) := by decide +kernel
theorem dX11_dreads_67 : decode cX11_dreads 67 = .ok (.iload_n 3, 1) := by decide +kernel
theorem dX11_dreads_68 : decode cX11_dreads 68 = .ok (.ifCond .le 14, 3) := by decide +kernel
theorem dX11_dreads_71 : decode cX11_dreads 71 = .ok (.aload_n 0, 1) := by decide +kernel
theorem dX11_dreads_72 : decode cX11_dreads 72 = .ok (.getfield 19, 3) := by decide +kernel
theorem dX11_dreads_75 : decode cX11_dreads 75 = .ok (.aload_n 0, 1) := by decide +kernel
theorem dX11_dreads_76 : decode cX11_dreads 76 = .ok (.getfield 23, 3) := by decide +kernel
theorem dX11_dreads_79 : decode cX11_dreads 79 = .ok (.invokevirtual 98, 3) := by decide +kernel
theorem dX11_dreads_82 : decode cX11_dreads 82 = .ok (.iload_n 3, 1) := by decide +kernel
theorem dX11_dreads_83 : decode cX11_dreads 83 = .ok (.ireturn, 1) := by decide +kernel
theorem dX11_orders_0 : decode cX11_orders 0 = .ok (.aload_n 0, 1) := by decide +kernel
theorem dX11_orders_1 : decode cX11_orders 1 = .ok (.getfield 12, 3) := by decide +kernel
theorem dX11_orders_4 : decode cX11_orders 4 = .ok (.iload_n 1, 1) := by decide +kernel
theorem dX11_orders_5 : decode cX11_orders 5 = .ok (.iconst 1, 1) := by decide +kernel
theorem dX11_orders_6 : decode cX11_orders 6 = .ok (.bipush 120, 2) := by decide +kernel
theorem dX11_orders_8 : decode cX11_orders 8 = .ok (.invokevirtual 79, 3) := by decide +kernel
theorem dX11_orders_11 : decode cX11_orders 11 = .ok (.ifCond .ne 5, 3) := by decide +kernel
theorem dX11_orders_14 : decode cX11_orders 14 = .ok (.iconst (-1), 1) := by decide +kernel
theorem dX11_orders_15 : decode cX11_orders 15 = .ok (.ireturn, 1) := by decide +kernel
theorem dX11_orders_16 : decode cX11_orders 16 = .ok (.aload_n 0, 1) := by decide +kernel
theorem dX11_orders_17 : decode cX11_orders 17 = .ok (.getfield 12, 3) := by decide +kernel
theorem dX11_orders_20 : decode cX11_orders 20 = .ok (.iload_n 1, 1) := by decide +kernel
theorem dX11_orders_21 : decode cX11_orders 21 = .ok (.invokevirtual 83, 3) := by decide +kernel
theorem dX11_orders_24 : decode cX11_orders 24 = .ok (.aload_n 0, 1) := by decide +kernel
theorem dX11_orders_25 : decode cX11_orders 25 = .ok (.getfield 23, 3) := by decide +kernel
theorem dX11_orders_28 : decode cX11_orders 28 = .ok (.aload_n 0, 1) := by decide +kernel
theorem dX11_orders_29 : decode cX11_orders 29 = .ok (.getfield 19, 3) := by decide +kernel
theorem dX11_orders_32 : decode cX11_orders 32 = .ok (.invokevirtual 98, 3) := by decide +kernel
theorem dX11_orders_35 : decode cX11_orders 35 = .ok (.new 108, 3) := by decide +kernel
theorem dX11_orders_38 : decode cX11_orders 38 = .ok (.dup, 1) := by decide +kernel
theorem dX11_orders_39 : decode cX11_orders 39 = .ok (.aload_n 0, 1) := by decide +kernel
theorem dX11_orders_40 : decode cX11_orders 40 = .ok (.getfield 12, 3) := by decide +kernel
theorem dX11_orders_43 : decode cX11_orders 43 = .ok (.aload_n 0, 1) := by decide +kernel
theorem dX11_orders_44 : decode cX11_orders 44 = .ok (.getfield 23, 3) := by decide +kernel
theorem dX11_orders_47 : decode cX11_orders 47 = .ok (.invokespecial 110, 3) := by decide +kernel
theorem dX11_orders_50 : decode cX11_orders 50 = .ok (.bipush 16, 2) := by decide +kernel
theorem dX11_orders_52 : decode cX11_orders 52 = .ok (.invokevirtual 113, 3) := by decide +kernel
theorem dX11_orders_55 : decode cX11_orders 55 = .ok (.istore_n 2, 1) := by decide +kernel
theorem dX11_orders_56 : decode cX11_orders 56 = .ok (.iload_n 2, 1) := by decide +kernel
theorem dX11_orders_57 : decode cX11_orders 57 = .ok (.ifCond .le 14, 3) := by decide +kernel
theorem dX11_orders_60 : decode cX11_orders 60 = .ok (.aload_n 0, 1) := by decide +kernel
theorem dX11_orders_61 : decode cX11_orders 61 = .ok (.getfield 19, 3) := by decide +kernel
theorem dX11_orders_64 : decode cX11_orders 64 = .ok (.aload_n 0, 1) := by decide +kernel
theorem dX11_orders_65 : decode cX11_orders 65 = .ok (.getfield 23, 3) := by decide +kernel
theorem dX11_orders_68 : decode cX11_orders 68 = .ok (.invokevirtual 98, 3) := by decide +kernel
theorem dX11_orders_71 : decode cX11_orders 71 = .ok (.iload_n 2, 1) := by decide +kernel
theorem dX11_orders_72 : decode cX11_orders 72 = .ok (.ireturn, 1) := by decide +kernel
theorem dX11_nights_0 : decode cX11_nights 0 = .ok (.iload_n 1, 1) := by decide +kernel
theorem dX11_nights_1 : decode cX11_nights 1 = .ok (.iconst 1, 1) := by decide +kernel
theorem dX11_nights_2 : decode cX11_nights 2 = .ok (.if_icmp .lt 9, 3) := by decide +kernel
theorem dX11_nights_5 : decode cX11_nights 5 = .ok (.iload_n 1, 1) := by decide +kernel
theorem dX11_nights_6 : decode cX11_nights 6 = .ok (.bipush 100, 2) := by decide +kernel
theorem dX11_nights_8 : decode cX11_nights 8 = .ok (.if_icmp .le 5, 3) := by decide +kernel
theorem dX11_nights_11 : decode cX11_nights 11 = .ok (.iconst (-1), 1) := by decide +kernel
theorem dX11_nights_12 : decode cX11_nights 12 = .ok (.ireturn, 1) := by decide +kernel
theorem dX11_nights_13 : decode cX11_nights 13 = .ok (.aload_n 0, 1) := by decide +kernel
theorem dX11_nights_14 : decode cX11_nights 14 = .ok (.getfield 46, 3) := by decide +kernel
theorem dX11_nights_17 : decode cX11_nights 17 = .ok (.aload_n 0, 1) := by decide +kernel
theorem dX11_nights_18 : decode cX11_nights 18 = .ok (.getfield 19, 3) := by decide +kernel
theorem dX11_nights_21 : decode cX11_nights 21 = .ok (.aload_n 0, 1) := by decide +kernel
theorem dX11_nights_22 : decode cX11_nights 22 = .ok (.getfield 36, 3) := by decide +kernel
theorem dX11_nights_25 : decode cX11_nights 25 = .ok (.iload_n 1, 1) := by decide +kernel
theorem dX11_nights_26 : decode cX11_nights 26 = .ok (.invokevirtual 114, 3) := by decide +kernel
theorem dX11_nights_29 : decode cX11_nights 29 = .ok (.aload_n 0, 1) := by decide +kernel
theorem dX11_nights_30 : decode cX11_nights 30 = .ok (.getfield 46, 3) := by decide +kernel
theorem dX11_nights_33 : decode cX11_nights 33 = .ok (.getfield 118, 3) := by decide +kernel
theorem dX11_nights_36 : decode cX11_nights 36 = .ok (.ireturn, 1) := by decide +kernel
theorem dX11_tried_0 : decode cX11_tried 0 = .ok (.iload_n 1, 1) := by decide +kernel
theorem dX11_tried_1 : decode cX11_tried 1 = .ok (.iconst 1, 1) := by decide +kernel
theorem dX11_tried_2 : decode cX11_tried 2 = .ok (.if_icmp .lt 17, 3) := by decide +kernel
theorem dX11_tried_5 : decode cX11_tried 5 = .ok (.iload_n 1, 1) := by decide +kernel
theorem dX11_tried_6 : decode cX11_tried 6 = .ok (.bipush 100, 2) := by decide +kernel
theorem dX11_tried_8 : decode cX11_tried 8 = .ok (.if_icmp .gt 11, 3) := by decide +kernel
theorem dX11_tried_11 : decode cX11_tried 11 = .ok (.aload_n 0, 1) := by decide +kernel
theorem dX11_tried_12 : decode cX11_tried 12 = .ok (.iload_n 2, 1) := by decide +kernel
theorem dX11_tried_13 : decode cX11_tried 13 = .ok (.invokevirtual 121, 3) := by decide +kernel
theorem dX11_tried_16 : decode cX11_tried 16 = .ok (.ifCond .ne 5, 3) := by decide +kernel
theorem dX11_tried_19 : decode cX11_tried 19 = .ok (.iconst (-1), 1) := by decide +kernel
theorem dX11_tried_20 : decode cX11_tried 20 = .ok (.ireturn, 1) := by decide +kernel
theorem dX11_tried_21 : decode cX11_tried 21 = .ok (.aload_n 0, 1) := by decide +kernel
theorem dX11_tried_22 : decode cX11_tried 22 = .ok (.getfield 23, 3) := by decide +kernel
theorem dX11_tried_25 : decode cX11_tried 25 = .ok (.aload_n 0, 1) := by decide +kernel
theorem dX11_tried_26 : decode cX11_tried 26 = .ok (.getfield 19, 3) := by decide +kernel
theorem dX11_tried_29 : decode cX11_tried 29 = .ok (.invokevirtual 98, 3) := by decide +kernel
theorem dX11_tried_32 : decode cX11_tried 32 = .ok (.aload_n 0, 1) := by decide +kernel
theorem dX11_tried_33 : decode cX11_tried 33 = .ok (.getfield 46, 3) := by decide +kernel
theorem dX11_tried_36 : decode cX11_tried 36 = .ok (.aload_n 0, 1) := by decide +kernel
theorem dX11_tried_37 : decode cX11_tried 37 = .ok (.getfield 23, 3) := by decide +kernel
theorem dX11_tried_40 : decode cX11_tried 40 = .ok (.aload_n 0, 1) := by decide +kernel
theorem dX11_tried_41 : decode cX11_tried 41 = .ok (.getfield 36, 3) := by decide +kernel
theorem dX11_tried_44 : decode cX11_tried 44 = .ok (.iload_n 1, 1) := by decide +kernel
theorem dX11_tried_45 : decode cX11_tried 45 = .ok (.invokevirtual 114, 3) := by decide +kernel
theorem dX11_tried_48 : decode cX11_tried 48 = .ok (.iload_n 2, 1) := by decide +kernel
theorem dX11_tried_49 : decode cX11_tried 49 = .ok (.ifCond .ne 11, 3) := by decide +kernel
theorem dX11_tried_52 : decode cX11_tried 52 = .ok (.aload_n 0, 1) := by decide +kernel
theorem dX11_tried_53 : decode cX11_tried 53 = .ok (.getfield 46, 3) := by decide +kernel
theorem dX11_tried_56 : decode cX11_tried 56 = .ok (.getfield 118, 3) := by decide +kernel
theorem dX11_tried_59 : decode cX11_tried 59 = .ok (.ireturn, 1) := by decide +kernel
theorem dX11_tried_60 : decode cX11_tried 60 = .ok (.iload_n 2, 1) := by decide +kernel
theorem dX11_tried_61 : decode cX11_tried 61 = .ok (.iconst 1, 1) := by decide +kernel
theorem dX11_tried_62 : decode cX11_tried 62 = .ok (.if_icmp .ne 11, 3) := by decide +kernel
theorem dX11_tried_65 : decode cX11_tried 65 = .ok (.aload_n 0, 1) := by decide +kernel
theorem dX11_tried_66 : decode cX11_tried 66 = .ok (.getfield 46, 3) := by decide +kernel
theorem dX11_tried_69 : decode cX11_tried 69 = .ok (.getfield 125, 3) := by decide +kernel
theorem dX11_tried_72 : decode cX11_tried 72 = .ok (.ireturn, 1) := by decide +kernel
theorem dX11_tried_73 : decode cX11_tried 73 = .ok (.iload_n 2, 1) := by decide +kernel
theorem dX11_tried_74 : decode cX11_tried 74 = .ok (.bipush 30, 2) := by decide +kernel
theorem dX11_tried_76 : decode cX11_tried 76 = .ok (.if_icmp .ge 15, 3) := by decide +kernel
theorem dX11_tried_79 : decode cX11_tried 79 = .ok (.aload_n 0, 1) := by decide +kernel
theorem dX11_tried_80 : decode cX11_tried 80 = .ok (.getfield 23, 3) := by decide +kernel
theorem dX11_tried_83 : decode cX11_tried 83 = .ok (.iload_n 2, 1) := by decide +kernel
theorem dX11_tried_84 : decode cX11_tried 84 = .ok (.bipush 10, 2) := by decide +kernel
theorem dX11_tried_86 : decode cX11_tried 86 = .ok (.isub, 1) := by decide +kernel
theorem dX11_tried_87 : decode cX11_tried 87 = .ok (.invokevirtual 128, 3) := by decide +kernel
theorem dX11_tried_90 : decode cX11_tried 90 = .ok (.ireturn, 1) := by decide +kernel
theorem dX11_tried_91 : decode cX11_tried 91 = .ok (.iload_n 2, 1) := by decide +kernel
theorem dX11_tried_92 : decode cX11_tried 92 = .ok (.bipush 50, 2) := by decide +kernel
theorem dX11_tried_94 : decode cX11_tried 94 = .ok (.if_icmp .ge 15, 3) := by decide +kernel
theorem dX11_tried_97 : decode cX11_tried 97 = .ok (.aload_n 0, 1) := by decide +kernel
theorem dX11_tried_98 : decode cX11_tried 98 = .ok (.getfield 23, 3) := by decide +kernel
theorem dX11_tried_101 : decode cX11_tried 101 = .ok (.iload_n 2, 1) := by decide +kernel
theorem dX11_tried_102 : decode cX11_tried 102 = .ok (.bipush 30, 2) := by decide +kernel
theorem dX11_tried_104 : decode cX11_tried 104 = .ok (.isub, 1) := by decide +kernel
theorem dX11_tried_105 : decode cX11_tried 105 = .ok (.invokevirtual 131, 3) := by decide +kernel
theorem dX11_tried_108 : decode cX11_tried 108 = .ok (.ireturn, 1) := by decide +kernel
theorem dX11_tried_109 : decode cX11_tried 109 = .ok (.aload_n 0, 1) := by decide +kernel
theorem dX11_tried_110 : decode cX11_tried 110 = .ok (.getfield 23, 3) := by decide +kernel
theorem dX11_tried_113 : decode cX11_tried 113 = .ok (.iload_n 2, 1) := by decide +kernel
theorem dX11_tried_114 : decode cX11_tried 114 = .ok (.bipush 50, 2) := by decide +kernel
theorem dX11_tried_116 : decode cX11_tried 116 = .ok (.isub, 1) := by decide +kernel
theorem dX11_tried_117 : decode cX11_tried 117 = .ok (.invokevirtual 134, 3) := by decide +kernel
theorem dX11_tried_120 : decode cX11_tried 120 = .ok (.ireturn, 1) := by decide +kernel
theorem dX11_canBeTried_0 : decode cX11_canBeTried 0 = .ok (.iload_n 1, 1) := by decide +kernel
theorem dX11_canBeTried_1 : decode cX11_canBeTried 1 = .ok (.ifCond .lt 9, 3) := by decide +kernel
theorem dX11_canBeTried_4 : decode cX11_canBeTried 4 = .ok (.iload_n 1, 1) := by decide +kernel
theorem dX11_canBeTried_5 : decode cX11_canBeTried 5 = .ok (.bipush 66, 2) := by decide +kernel
theorem dX11_canBeTried_7 : decode cX11_canBeTried 7 = .ok (.if_icmp .le 5, 3) := by decide +kernel
theorem dX11_canBeTried_10 : decode cX11_canBeTried 10 = .ok (.iconst 0, 1) := by decide +kernel
theorem dX11_canBeTried_11 : decode cX11_canBeTried 11 = .ok (.ireturn, 1) := by decide +kernel
theorem dX11_canBeTried_12 : decode cX11_canBeTried 12 = .ok (.iload_n 1, 1) := by decide +kernel
theorem dX11_canBeTried_13 : decode cX11_canBeTried 13 = .ok (.bipush 10, 2) := by decide +kernel
theorem dX11_canBeTried_15 : decode cX11_canBeTried 15 = .ok (.if_icmp .ge 14, 3) := by decide +kernel
theorem dX11_canBeTried_18 : decode cX11_canBeTried 18 = .ok (.iload_n 1, 1) := by decide +kernel
theorem dX11_canBeTried_19 : decode cX11_canBeTried 19 = .ok (.iconst 1, 1) := by decide +kernel
theorem dX11_canBeTried_20 : decode cX11_canBeTried 20 = .ok (.if_icmp .gt 7, 3) := by decide +kernel
theorem dX11_canBeTried_23 : decode cX11_canBeTried 23 = .ok (.iconst 1, 1) := by decide +kernel
theorem dX11_canBeTried_24 : decode cX11_canBeTried 24 = .ok (.goto 4, 3) := by decide +kernel
theorem dX11_canBeTried_27 : decode cX11_canBeTried 27 = .ok (.iconst 0, 1) := by decide +kernel
theorem dX11_canBeTried_28 : decode cX11_canBeTried 28 = .ok (.ireturn, 1) := by decide +kernel
theorem dX11_canBeTried_29 : decode cX11_canBeTried 29 = .ok (.iload_n 1, 1) := by decide +kernel
theorem dX11_canBeTried_30 : decode cX11_canBeTried 30 = .ok (.bipush 50, 2) := by decide +kernel
theorem dX11_canBeTried_32 : decode cX11_canBeTried 32 = .ok (.if_icmp .ge 28, 3) := by decide +kernel
theorem dX11_canBeTried_35 : decode cX11_canBeTried 35 = .ok (.aload_n 0, 1) := by decide +kernel
theorem dX11_canBeTried_36 : decode cX11_canBeTried 36 = .ok (.getfield 19, 3) := by decide +kernel
theorem dX11_canBeTried_39 : decode cX11_canBeTried 39 = .ok (.iload_n 1, 1) := by decide +kernel
theorem dX11_canBeTried_40 : decode cX11_canBeTried 40 = .ok (.bipush 30, 2) := by decide +kernel
theorem dX11_canBeTried_42 : decode cX11_canBeTried 42 = .ok (.if_icmp .ge 10, 3) := by decide +kernel
theorem dX11_canBeTried_45 : decode cX11_canBeTried 45 = .ok (.iload_n 1, 1) := by decide +kernel
theorem dX11_canBeTried_46 : decode cX11_canBeTried 46 = .ok (.bipush 10, 2) := by decide +kernel
theorem dX11_canBeTried_48 : decode cX11_canBeTried 48 = .ok (.isub, 1) := by decide +kernel
theorem dX11_canBeTried_49 : decode cX11_canBeTried 49 = .ok (.goto 7, 3) := by decide +kernel
theorem dX11_canBeTried_52 : decode cX11_canBeTried 52 = .ok (.iload_n 1, 1) := by decide +kernel
theorem dX11_canBeTried_53 : decode cX11_canBeTried 53 = .ok (.bipush 30, 2) := by decide +kernel
theorem dX11_canBeTried_55 : decode cX11_canBeTried 55 = .ok (.isub, 1) := by decide +kernel
theorem dX11_canBeTried_56 : decode cX11_canBeTried 56 = .ok (.invokevirtual 137, 3) := by decide +kernel
theorem dX11_canBeTried_59 : decode cX11_canBeTried 59 = .ok (.ireturn, 1) := by decide +kernel
theorem dX11_canBeTried_60 : decode cX11_canBeTried 60 = .ok (.aload_n 0, 1) := by decide +kernel
theorem dX11_canBeTried_61 : decode cX11_canBeTried 61 = .ok (.getfield 19, 3) := by decide +kernel
theorem dX11_canBeTried_64 : decode cX11_canBeTried 64 = .ok (.iload_n 1, 1) := by decide +kernel
theorem dX11_canBeTried_65 : decode cX11_canBeTried 65 = .ok (.bipush 50, 2) := by decide +kernel
theorem dX11_canBeTried_67 : decode cX11_canBeTried 67 = .ok (.isub, 1) := by decide +kernel
theorem dX11_canBeTried_68 : decode cX11_canBeTried 68 = .ok (.invokevirtual 140, 3) := by decide +kernel
theorem dX11_canBeTried_71 : decode cX11_canBeTried 71 = .ok (.ireturn, 1) := by decide +kernel
theorem dX11_personIs_0 : decode cX11_personIs 0 = .ok (.aload_n 0, 1) := by decide +kernel
theorem dX11_personIs_1 : decode cX11_personIs 1 = .ok (.getfield 19, 3) := by decide +kernel
theorem dX11_personIs_4 : decode cX11_personIs 4 = .ok (.iload_n 1, 1) := by decide +kernel
theorem dX11_personIs_5 : decode cX11_personIs 5 = .ok (.invokevirtual 137, 3) := by decide +kernel
theorem dX11_personIs_8 : decode cX11_personIs 8 = .ok (.ifCond .ne 5, 3) := by decide +kernel
theorem dX11_personIs_11 : decode cX11_personIs 11 = .ok (.iconst (-1), 1) := by decide +kernel
theorem dX11_personIs_12 : decode cX11_personIs 12 = .ok (.ireturn, 1) := by decide +kernel
theorem dX11_personIs_13 : decode cX11_personIs 13 = .ok (.iload_n 2, 1) := by decide +kernel
theorem dX11_personIs_14 : decode cX11_personIs 14 = .ok (.ifCond .lt 19, 3) := by decide +kernel
theorem dX11_personIs_17 : decode cX11_personIs 17 = .ok (.iload_n 2, 1) := by decide +kernel
theorem dX11_personIs_18 : decode cX11_personIs 18 = .ok (.bipush 16, 2) := by decide +kernel
theorem dX11_personIs_20 : decode cX11_personIs 20 = .ok (.if_icmp .ge 13, 3) := by decide +kernel
theorem dX11_personIs_23 : decode cX11_personIs 23 = .ok (.aload_n 0, 1) := by decide +kernel
theorem dX11_personIs_24 : decode cX11_personIs 24 = .ok (.getfield 19, 3) := by decide +kernel
theorem dX11_personIs_27 : decode cX11_personIs 27 = .ok (.iload_n 1, 1) := by decide +kernel
theorem dX11_personIs_28 : decode cX11_personIs 28 = .ok (.iload_n 2, 1) := by decide +kernel
theorem dX11_personIs_29 : decode cX11_personIs 29 = .ok (.invokevirtual 143, 3) := by decide +kernel
theorem dX11_personIs_32 : decode cX11_personIs 32 = .ok (.ireturn, 1) := by decide +kernel
theorem dX11_personIs_33 : decode cX11_personIs 33 = .ok (.iload_n 2, 1) := by decide +kernel
theorem dX11_personIs_34 : decode cX11_personIs 34 = .ok (.tableswitch 79 100 104 #[34, 43, 52, 61, 70], 34) := by decide +kernel
theorem dX11_personIs_68 : decode cX11_personIs 68 = .ok (.aload_n 0, 1) := by decide +kernel
theorem dX11_personIs_69 : decode cX11_personIs 69 = .ok (.getfield 19, 3) := by decide +kernel
theorem dX11_personIs_72 : decode cX11_personIs 72 = .ok (.iload_n 1, 1) := by decide +kernel
theorem dX11_personIs_73 : decode cX11_personIs 73 = .ok (.invokevirtual 128, 3) := by decide +kernel
theorem dX11_personIs_76 : decode cX11_personIs 76 = .ok (.ireturn, 1) := by decide +kernel
theorem dX11_personIs_77 : decode cX11_personIs 77 = .ok (.aload_n 0, 1) := by decide +kernel
theorem dX11_personIs_78 : decode cX11_personIs 78 = .ok (.getfield 19, 3) := by decide +kernel
theorem dX11_personIs_81 : decode cX11_personIs 81 = .ok (.iload_n 1, 1) := by decide +kernel
theorem dX11_personIs_82 : decode cX11_personIs 82 = .ok (.invokevirtual 131, 3) := by decide +kernel
theorem dX11_personIs_85 : decode cX11_personIs 85 = .ok (.ireturn, 1) := by decide +kernel
theorem dX11_personIs_86 : decode cX11_personIs 86 = .ok (.aload_n 0, 1) := by decide +kernel
theorem dX11_personIs_87 : decode cX11_personIs 87 = .ok (.getfield 19, 3) := by decide +kernel
theorem dX11_personIs_90 : decode cX11_personIs 90 = .ok (.iload_n 1, 1) := by decide +kernel
theorem dX11_personIs_91 : decode cX11_personIs 91 = .ok (.invokevirtual 147, 3) := by decide +kernel
theorem dX11_personIs_94 : decode cX11_personIs 94 = .ok (.ireturn, 1) := by decide +kernel
theorem dX11_personIs_95 : decode cX11_personIs 95 = .ok (.aload_n 0, 1) := by decide +kernel
theorem dX11_personIs_96 : decode cX11_personIs 96 = .ok (.getfield 19, 3) := by decide +kernel
theorem dX11_personIs_99 : decode cX11_personIs 99 = .ok (.iload_n 1, 1) := by decide +kernel
theorem dX11_personIs_100 : decode cX11_personIs 100 = .ok (.invokevirtual 150, 3) := by decide +kernel
theorem dX11_personIs_103 : decode cX11_personIs 103 = .ok (.ireturn, 1) := by decide +kernel
theorem dX11_personIs_104 : decode cX11_personIs 104 = .ok (.aload_n 0, 1) := by decide +kernel
theorem dX11_personIs_105 : decode cX11_personIs 105 = .ok (.getfield 19, 3) := by decide +kernel
theorem dX11_personIs_108 : decode cX11_personIs 108 = .ok (.iload_n 1, 1) := by decide +kernel
theorem dX11_personIs_109 : decode cX11_personIs 109 = .ok (.invokevirtual 153, 3) := by decide +kernel
theorem dX11_personIs_112 : decode cX11_personIs 112 = .ok (.ireturn, 1) := by decide +kernel
theorem dX11_personIs_113 : decode cX11_personIs 113 = .ok (.iconst (-1), 1) := by decide +kernel
theorem dX11_personIs_114 : decode cX11_personIs 114 = .ok (.ireturn, 1) := by decide +kernel
theorem dX11_doorIs_0 : decode cX11_doorIs 0 = .ok (.aload_n 0, 1) := by decide +kernel
theorem dX11_doorIs_1 : decode cX11_doorIs 1 = .ok (.getfield 19, 3) := by decide +kernel
theorem dX11_doorIs_4 : decode cX11_doorIs 4 = .ok (.iload_n 1, 1) := by decide +kernel
theorem dX11_doorIs_5 : decode cX11_doorIs 5 = .ok (.invokevirtual 140, 3) := by decide +kernel
theorem dX11_doorIs_8 : decode cX11_doorIs 8 = .ok (.ifCond .ne 5, 3) := by decide +kernel
theorem dX11_doorIs_11 : decode cX11_doorIs 11 = .ok (.iconst (-1), 1) := by decide +kernel
theorem dX11_doorIs_12 : decode cX11_doorIs 12 = .ok (.ireturn, 1) := by decide +kernel
theorem dX11_doorIs_13 : decode cX11_doorIs 13 = .ok (.iload_n 2, 1) := by decide +kernel
theorem dX11_doorIs_14 : decode cX11_doorIs 14 = .ok (.tableswitch 69 0 3 #[30, 40, 50, 60], 30) := by decide +kernel
theorem dX11_doorIs_44 : decode cX11_doorIs 44 = .ok (.aload_n 0, 1) := by decide +kernel
theorem dX11_doorIs_45 : decode cX11_doorIs 45 = .ok (.getfield 19, 3) := by decide +kernel
theorem dX11_doorIs_48 : decode cX11_doorIs 48 = .ok (.getfield 156, 3) := by decide +kernel
theorem dX11_doorIs_51 : decode cX11_doorIs 51 = .ok (.iload_n 1, 1) := by decide +kernel
theorem dX11_doorIs_52 : decode cX11_doorIs 52 = .ok (.iaload, 1) := by decide +kernel
theorem dX11_doorIs_53 : decode cX11_doorIs 53 = .ok (.ireturn, 1) := by decide +kernel
theorem dX11_doorIs_54 : decode cX11_doorIs 54 = .ok (.aload_n 0, 1) := by decide +kernel
theorem dX11_doorIs_55 : decode cX11_doorIs 55 = .ok (.getfield 19, 3) := by decide +kernel
theorem dX11_doorIs_58 : decode cX11_doorIs 58 = .ok (.getfield 160, 3) := by decide +kernel
theorem dX11_doorIs_61 : decode cX11_doorIs 61 = .ok (.iload_n 1, 1) := by decide +kernel
theorem dX11_doorIs_62 : decode cX11_doorIs 62 = .ok (.iaload, 1) := by decide +kernel
theorem dX11_doorIs_63 : decode cX11_doorIs 63 = .ok (.ireturn, 1) := by decide +kernel
theorem dX11_doorIs_64 : decode cX11_doorIs 64 = .ok (.aload_n 0, 1) := by decide +kernel
theorem dX11_doorIs_65 : decode cX11_doorIs 65 = .ok (.getfield 19, 3) := by decide +kernel
theorem dX11_doorIs_68 : decode cX11_doorIs 68 = .ok (.getfield 163, 3) := by decide +kernel
theorem dX11_doorIs_71 : decode cX11_doorIs 71 = .ok (.iload_n 1, 1) := by decide +kernel
theorem dX11_doorIs_72 : decode cX11_doorIs 72 = .ok (.iaload, 1) := by decide +kernel
theorem dX11_doorIs_73 : decode cX11_doorIs 73 = .ok (.ireturn, 1) := by decide +kernel
theorem dX11_doorIs_74 : decode cX11_doorIs 74 = .ok (.aload_n 0, 1) := by decide +kernel
theorem dX11_doorIs_75 : decode cX11_doorIs 75 = .ok (.getfield 19, 3) := by decide +kernel
theorem dX11_doorIs_78 : decode cX11_doorIs 78 = .ok (.iload_n 1, 1) := by decide +kernel
theorem dX11_doorIs_79 : decode cX11_doorIs 79 = .ok (.invokevirtual 166, 3) := by decide +kernel
theorem dX11_doorIs_82 : decode cX11_doorIs 82 = .ok (.ireturn, 1) := by decide +kernel
theorem dX11_doorIs_83 : decode cX11_doorIs 83 = .ok (.iconst (-1), 1) := by decide +kernel
theorem dX11_doorIs_84 : decode cX11_doorIs 84 = .ok (.ireturn, 1) := by decide +kernel
theorem dX11_taught_0 : decode cX11_taught 0 = .ok (.aload_n 0, 1) := by decide +kernel
theorem dX11_taught_1 : decode cX11_taught 1 = .ok (.getfield 19, 3) := by decide +kernel
theorem dX11_taught_4 : decode cX11_taught 4 = .ok (.iload_n 1, 1) := by decide +kernel
theorem dX11_taught_5 : decode cX11_taught 5 = .ok (.invokevirtual 137, 3) := by decide +kernel
theorem dX11_taught_8 : decode cX11_taught 8 = .ok (.ifCond .eq 14, 3) := by decide +kernel
theorem dX11_taught_11 : decode cX11_taught 11 = .ok (.aload_n 0, 1) := by decide +kernel
theorem dX11_taught_12 : decode cX11_taught 12 = .ok (.getfield 19, 3) := by decide +kernel
theorem dX11_taught_15 : decode cX11_taught 15 = .ok (.iload_n 2, 1) := by decide +kernel
theorem dX11_taught_16 : decode cX11_taught 16 = .ok (.invokevirtual 140, 3) := by decide +kernel
theorem dX11_taught_19 : decode cX11_taught 19 = .ok (.ifCond .ne 5, 3) := by decide +kernel
theorem dX11_taught_22 : decode cX11_taught 22 = .ok (.iconst (-1), 1) := by decide +kernel
theorem dX11_taught_23 : decode cX11_taught 23 = .ok (.ireturn, 1) := by decide +kernel
theorem dX11_taught_24 : decode cX11_taught 24 = .ok (.aload_n 0, 1) := by decide +kernel
theorem dX11_taught_25 : decode cX11_taught 25 = .ok (.getfield 19, 3) := by decide +kernel
theorem dX11_taught_28 : decode cX11_taught 28 = .ok (.iload_n 1, 1) := by decide +kernel
theorem dX11_taught_29 : decode cX11_taught 29 = .ok (.iload_n 2, 1) := by decide +kernel
theorem dX11_taught_30 : decode cX11_taught 30 = .ok (.invokestatic 169, 3) := by decide +kernel
theorem dX11_taught_33 : decode cX11_taught 33 = .ok (.ireturn, 1) := by decide +kernel
theorem dX11_crew_0 : decode cX11_crew 0 = .ok (.iload_n 1, 1) := by decide +kernel
theorem dX11_crew_1 : decode cX11_crew 1 = .ok (.ifCond .lt 8, 3) := by decide +kernel
theorem dX11_crew_4 : decode cX11_crew 4 = .ok (.iload_n 1, 1) := by decide +kernel
theorem dX11_crew_5 : decode cX11_crew 5 = .ok (.iconst 1, 1) := by decide +kernel
theorem dX11_crew_6 : decode cX11_crew 6 = .ok (.if_icmp .le 5, 3) := by decide +kernel
theorem dX11_crew_9 : decode cX11_crew 9 = .ok (.iconst (-1), 1) := by decide +kernel
theorem dX11_crew_10 : decode cX11_crew 10 = .ok (.ireturn, 1) := by decide +kernel
theorem dX11_crew_11 : decode cX11_crew 11 = .ok (.aload_n 0, 1) := by decide +kernel
theorem dX11_crew_12 : decode cX11_crew 12 = .ok (.getfield 53, 3) := by decide +kernel
theorem dX11_crew_15 : decode cX11_crew 15 = .ok (.aload_n 0, 1) := by decide +kernel
theorem dX11_crew_16 : decode cX11_crew 16 = .ok (.getfield 19, 3) := by decide +kernel
theorem dX11_crew_19 : decode cX11_crew 19 = .ok (.invokevirtual 173, 3) := by decide +kernel
theorem dX11_crew_22 : decode cX11_crew 22 = .ok (.istore_n 2, 1) := by decide +kernel
theorem dX11_crew_23 : decode cX11_crew 23 = .ok (.iload_n 2, 1) := by decide +kernel
theorem dX11_crew_24 : decode cX11_crew 24 = .ok (.ifCond .ge 6, 3) := by decide +kernel
theorem dX11_crew_27 : decode cX11_crew 27 = .ok (.bipush (-2), 2) := by decide +kernel
theorem dX11_crew_29 : decode cX11_crew 29 = .ok (.ireturn, 1) := by decide +kernel
theorem dX11_crew_30 : decode cX11_crew 30 = .ok (.iload_n 1, 1) := by decide +kernel
theorem dX11_crew_31 : decode cX11_crew 31 = .ok (.ifCond .ne 10, 3) := by decide +kernel
theorem dX11_crew_34 : decode cX11_crew 34 = .ok (.iload_n 2, 1) := by decide +kernel
theorem dX11_crew_35 : decode cX11_crew 35 = .ok (.invokestatic 177, 3) := by decide +kernel
theorem dX11_crew_38 : decode cX11_crew 38 = .ok (.goto 4, 3) := by decide +kernel
theorem dX11_crew_41 : decode cX11_crew 41 = .ok (.iload_n 2, 1) := by decide +kernel
theorem dX11_crew_42 : decode cX11_crew 42 = .ok (.ireturn, 1) := by decide +kernel
theorem dX11_lodgings_0 : decode cX11_lodgings 0 = .ok (.aload_n 0, 1) := by decide +kernel
theorem dX11_lodgings_1 : decode cX11_lodgings 1 = .ok (.getfield 19, 3) := by decide +kernel
theorem dX11_lodgings_4 : decode cX11_lodgings 4 = .ok (.invokestatic 182, 3) := by decide +kernel
theorem dX11_lodgings_7 : decode cX11_lodgings 7 = .ok (.ireturn, 1) := by decide +kernel
theorem dX11_couples_0 : decode cX11_couples 0 = .ok (.iload_n 1, 1) := by decide +kernel
theorem dX11_couples_1 : decode cX11_couples 1 = .ok (.iconst 1, 1) := by decide +kernel
theorem dX11_couples_2 : decode cX11_couples 2 = .ok (.if_icmp .lt 9, 3) := by decide +kernel
theorem dX11_couples_5 : decode cX11_couples 5 = .ok (.iload_n 1, 1) := by decide +kernel
theorem dX11_couples_6 : decode cX11_couples 6 = .ok (.bipush 99, 2) := by decide +kernel
theorem dX11_couples_8 : decode cX11_couples 8 = .ok (.if_icmp .le 5, 3) := by decide +kernel
theorem dX11_couples_11 : decode cX11_couples 11 = .ok (.iconst (-1), 1) := by decide +kernel
theorem dX11_couples_12 : decode cX11_couples 12 = .ok (.ireturn, 1) := by decide +kernel
theorem dX11_couples_13 : decode cX11_couples 13 = .ok (.aload_n 0, 1) := by decide +kernel
theorem dX11_couples_14 : decode cX11_couples 14 = .ok (.getfield 60, 3) := by decide +kernel
theorem dX11_couples_17 : decode cX11_couples 17 = .ok (.aload_n 0, 1) := by decide +kernel
theorem dX11_couples_18 : decode cX11_couples 18 = .ok (.getfield 19, 3) := by decide +kernel
theorem dX11_couples_21 : decode cX11_couples 21 = .ok (.iload_n 1, 1) := by decide +kernel
theorem dX11_couples_22 : decode cX11_couples 22 = .ok (.invokevirtual 185, 3) := by decide +kernel
theorem dX11_couples_25 : decode cX11_couples 25 = .ok (.ireturn, 1) := by decide +kernel
theorem dX11_fashion_0 : decode cX11_fashion 0 = .ok (.iload_n 1, 1) := by decide +kernel
theorem dX11_fashion_1 : decode cX11_fashion 1 = .ok (.ifCond .lt 29, 3) := by decide +kernel
theorem dX11_fashion_4 : decode cX11_fashion 4 = .ok (.iload_n 1, 1) := by decide +kernel
theorem dX11_fashion_5 : decode cX11_fashion 5 = .ok (.bipush 16, 2) := by decide +kernel
theorem dX11_fashion_7 : decode cX11_fashion 7 = .ok (.if_icmp .ge 23, 3) := by decide +kernel
theorem dX11_fashion_10 : decode cX11_fashion 10 = .ok (.iload_n 2, 1) := by decide +kernel
theorem dX11_fashion_11 : decode cX11_fashion 11 = .ok (.iconst 1, 1) := by decide +kernel
theorem dX11_fashion_12 : decode cX11_fashion 12 = .ok (.if_icmp .lt 18, 3) := by decide +kernel
theorem dX11_fashion_15 : decode cX11_fashion 15 = .ok (.iload_n 2, 1) := by decide +kernel
theorem dX11_fashion_16 : decode cX11_fashion 16 = .ok (.bipush 12, 2) := by decide +kernel
theorem dX11_fashion_18 : decode cX11_fashion 18 = .ok (.if_icmp .ge 12, 3) := by decide +kernel
theorem dX11_fashion_21 : decode cX11_fashion 21 = .ok (.iload_n 3, 1) := by decide +kernel
theorem dX11_fashion_22 : decode cX11_fashion 22 = .ok (.ifCond .lt 8, 3) := by decide +kernel
theorem dX11_fashion_25 : decode cX11_fashion 25 = .ok (.iload_n 3, 1) := by decide +kernel
theorem dX11_fashion_26 : decode cX11_fashion 26 = .ok (.iconst 1, 1) := by decide +kernel
theorem dX11_fashion_27 : decode cX11_fashion 27 = .ok (.if_icmp .le 5, 3) := by decide +kernel
theorem dX11_fashion_30 : decode cX11_fashion 30 = .ok (.iconst (-1), 1) := by decide +kernel
theorem dX11_fashion_31 : decode cX11_fashion 31 = .ok (.ireturn, 1) := by decide +kernel
theorem dX11_fashion_32 : decode cX11_fashion 32 = .ok (.aload_n 0, 1) := by decide +kernel
theorem dX11_fashion_33 : decode cX11_fashion 33 = .ok (.getfield 19, 3) := by decide +kernel
theorem dX11_fashion_36 : decode cX11_fashion 36 = .ok (.iload_n 1, 1) := by decide +kernel
theorem dX11_fashion_37 : decode cX11_fashion 37 = .ok (.invokevirtual 189, 3) := by decide +kernel
theorem dX11_fashion_40 : decode cX11_fashion 40 = .ok (.istore 4, 2) := by decide +kernel
theorem dX11_fashion_42 : decode cX11_fashion 42 = .ok (.iconst 0, 1) := by decide +kernel
theorem dX11_fashion_43 : decode cX11_fashion 43 = .ok (.istore 5, 2) := by decide +kernel
theorem dX11_fashion_45 : decode cX11_fashion 45 = .ok (.aload_n 0, 1) := by decide +kernel
theorem dX11_fashion_46 : decode cX11_fashion 46 = .ok (.getfield 19, 3) := by decide +kernel
theorem dX11_fashion_49 : decode cX11_fashion 49 = .ok (.iload 4, 2) := by decide +kernel
theorem dX11_fashion_51 : decode cX11_fashion 51 = .ok (.iload_n 2, 1) := by decide +kernel
theorem dX11_fashion_52 : decode cX11_fashion 52 = .ok (.invokestatic 192, 3) := by decide +kernel
theorem dX11_fashion_55 : decode cX11_fashion 55 = .ok (.istore 6, 2) := by decide +kernel
theorem dX11_fashion_57 : decode cX11_fashion 57 = .ok (.iload 6, 2) := by decide +kernel
theorem dX11_fashion_59 : decode cX11_fashion 59 = .ok (.iload 4, 2) := by decide +kernel
theorem dX11_fashion_61 : decode cX11_fashion 61 = .ok (.if_icmp .eq 32, 3) := by decide +kernel
theorem dX11_fashion_64 : decode cX11_fashion 64 = .ok (.iload 5, 2) := by decide +kernel
theorem dX11_fashion_66 : decode cX11_fashion 66 = .ok (.bipush 12, 2) := by decide +kernel
theorem dX11_fashion_68 : decode cX11_fashion 68 = .ok (.if_icmp .ge 25, 3) := by decide +kernel
theorem dX11_fashion_71 : decode cX11_fashion 71 = .ok (.iinc 5 1, 3) := by decide +kernel
theorem dX11_fashion_74 : decode cX11_fashion 74 = .ok (.iload 6, 2) := by decide +kernel
theorem dX11_fashion_76 : decode cX11_fashion 76 = .ok (.istore 4, 2) := by decide +kernel
theorem dX11_fashion_78 : decode cX11_fashion 78 = .ok (.aload_n 0, 1) := by decide +kernel
theorem dX11_fashion_79 : decode cX11_fashion 79 = .ok (.getfield 19, 3) := by decide +kernel
theorem dX11_fashion_82 : decode cX11_fashion 82 = .ok (.iload 4, 2) := by decide +kernel
theorem dX11_fashion_84 : decode cX11_fashion 84 = .ok (.iload_n 2, 1) := by decide +kernel
theorem dX11_fashion_85 : decode cX11_fashion 85 = .ok (.invokestatic 192, 3) := by decide +kernel
theorem dX11_fashion_88 : decode cX11_fashion 88 = .ok (.istore 6, 2) := by decide +kernel
theorem dX11_fashion_90 : decode cX11_fashion 90 = .ok (.goto (-33), 3) := by decide +kernel
theorem dX11_fashion_93 : decode cX11_fashion 93 = .ok (.iload_n 3, 1) := by decide +kernel
theorem dX11_fashion_94 : decode cX11_fashion 94 = .ok (.ifCond .ne 8, 3) := by decide +kernel
theorem dX11_fashion_97 : decode cX11_fashion 97 = .ok (.iload 4, 2) := by decide +kernel
theorem dX11_fashion_99 : decode cX11_fashion 99 = .ok (.goto 5, 3) := by decide +kernel
theorem dX11_fashion_102 : decode cX11_fashion 102 = .ok (.iload 5, 2) := by decide +kernel
theorem dX11_fashion_104 : decode cX11_fashion 104 = .ok (.ireturn, 1) := by decide +kernel
theorem dX11_fears_0 : decode cX11_fears 0 = .ok (.iload_n 1, 1) := by decide +kernel
theorem dX11_fears_1 : decode cX11_fears 1 = .ok (.ifCond .lt 8, 3) := by decide +kernel
theorem dX11_fears_4 : decode cX11_fears 4 = .ok (.iload_n 1, 1) := by decide +kernel
theorem dX11_fears_5 : decode cX11_fears 5 = .ok (.iconst 1, 1) := by decide +kernel
theorem dX11_fears_6 : decode cX11_fears 6 = .ok (.if_icmp .le 5, 3) := by decide +kernel
theorem dX11_fears_9 : decode cX11_fears 9 = .ok (.iconst (-1), 1) := by decide +kernel
theorem dX11_fears_10 : decode cX11_fears 10 = .ok (.ireturn, 1) := by decide +kernel
theorem dX11_fears_11 : decode cX11_fears 11 = .ok (.iload_n 1, 1) := by decide +kernel
theorem dX11_fears_12 : decode cX11_fears 12 = .ok (.ifCond .ne 13, 3) := by decide +kernel
theorem dX11_fears_15 : decode cX11_fears 15 = .ok (.aload_n 0, 1) := by decide +kernel
theorem dX11_fears_16 : decode cX11_fears 16 = .ok (.getfield 19, 3) := by decide +kernel
theorem dX11_fears_19 : decode cX11_fears 19 = .ok (.invokevirtual 195, 3) := by decide +kernel
theorem dX11_fears_22 : decode cX11_fears 22 = .ok (.goto 10, 3) := by decide +kernel
theorem dX11_fears_25 : decode cX11_fears 25 = .ok (.aload_n 0, 1) := by decide +kernel
theorem dX11_fears_26 : decode cX11_fears 26 = .ok (.getfield 19, 3) := by decide +kernel
theorem dX11_fears_29 : decode cX11_fears 29 = .ok (.invokevirtual 199, 3) := by decide +kernel
theorem dX11_fears_32 : decode cX11_fears 32 = .ok (.ireturn, 1) := by decide +kernel
theorem dX11_unlike_0 : decode cX11_unlike 0 = .ok (.aload_n 0, 1) := by decide +kernel
theorem dX11_unlike_1 : decode cX11_unlike 1 = .ok (.getfield 19, 3) := by decide +kernel
theorem dX11_unlike_4 : decode cX11_unlike 4 = .ok (.iload_n 1, 1) := by decide +kernel
theorem dX11_unlike_5 : decode cX11_unlike 5 = .ok (.invokevirtual 137, 3) := by decide +kernel
theorem dX11_unlike_8 : decode cX11_unlike 8 = .ok (.ifCond .eq 14, 3) := by decide +kernel
theorem dX11_unlike_11 : decode cX11_unlike 11 = .ok (.aload_n 0, 1) := by decide +kernel
theorem dX11_unlike_12 : decode cX11_unlike 12 = .ok (.getfield 19, 3) := by decide +kernel
theorem dX11_unlike_15 : decode cX11_unlike 15 = .ok (.iload_n 2, 1) := by decide +kernel
theorem dX11_unlike_16 : decode cX11_unlike 16 = .ok (.invokevirtual 137, 3) := by decide +kernel
theorem dX11_unlike_19 : decode cX11_unlike 19 = .ok (.ifCond .ne 5, 3) := by decide +kernel
theorem dX11_unlike_22 : decode cX11_unlike 22 = .ok (.iconst (-1), 1) := by decide +kernel
theorem dX11_unlike_23 : decode cX11_unlike 23 = .ok (.ireturn, 1) := by decide +kernel
theorem dX11_unlike_24 : decode cX11_unlike 24 = .ok (.aload_n 0, 1) := by decide +kernel
theorem dX11_unlike_25 : decode cX11_unlike 25 = .ok (.getfield 19, 3) := by decide +kernel
theorem dX11_unlike_28 : decode cX11_unlike 28 = .ok (.iload_n 1, 1) := by decide +kernel
theorem dX11_unlike_29 : decode cX11_unlike 29 = .ok (.iload_n 2, 1) := by decide +kernel
theorem dX11_unlike_30 : decode cX11_unlike 30 = .ok (.invokestatic 202, 3) := by decide +kernel
theorem dX11_unlike_33 : decode cX11_unlike 33 = .ok (.ireturn, 1) := by decide +kernel
theorem dX11_mostLike_0 : decode cX11_mostLike 0 = .ok (.aload_n 0, 1) := by decide +kernel
theorem dX11_mostLike_1 : decode cX11_mostLike 1 = .ok (.getfield 19, 3) := by decide +kernel
theorem dX11_mostLike_4 : decode cX11_mostLike 4 = .ok (.iload_n 1, 1) := by decide +kernel
theorem dX11_mostLike_5 : decode cX11_mostLike 5 = .ok (.invokevirtual 137, 3) := by decide +kernel
theorem dX11_mostLike_8 : decode cX11_mostLike 8 = .ok (.ifCond .ne 5, 3) := by decide +kernel
theorem dX11_mostLike_11 : decode cX11_mostLike 11 = .ok (.iconst (-1), 1) := by decide +kernel
theorem dX11_mostLike_12 : decode cX11_mostLike 12 = .ok (.ireturn, 1) := by decide +kernel
theorem dX11_mostLike_13 : decode cX11_mostLike 13 = .ok (.aload_n 0, 1) := by decide +kernel
theorem dX11_mostLike_14 : decode cX11_mostLike 14 = .ok (.getfield 19, 3) := by decide +kernel
theorem dX11_mostLike_17 : decode cX11_mostLike 17 = .ok (.iload_n 1, 1) := by decide +kernel
theorem dX11_mostLike_18 : decode cX11_mostLike 18 = .ok (.invokestatic 205, 3) := by decide +kernel
theorem dX11_mostLike_21 : decode cX11_mostLike 21 = .ok (.ireturn, 1) := by decide +kernel
theorem dX11_circles_0 : decode cX11_circles 0 = .ok (.iload_n 1, 1) := by decide +kernel
theorem dX11_circles_1 : decode cX11_circles 1 = .ok (.ifCond .lt 27, 3) := by decide +kernel
theorem dX11_circles_4 : decode cX11_circles 4 = .ok (.iload_n 1, 1) := by decide +kernel
theorem dX11_circles_5 : decode cX11_circles 5 = .ok (.sipush 1584, 3) := by decide +kernel
theorem dX11_circles_8 : decode cX11_circles 8 = .ok (.if_icmp .gt 20, 3) := by decide +kernel
theorem dX11_circles_11 : decode cX11_circles 11 = .ok (.iload_n 2, 1) := by decide +kernel
theorem dX11_circles_12 : decode cX11_circles 12 = .ok (.bipush 100, 2) := by decide +kernel
theorem dX11_circles_14 : decode cX11_circles 14 = .ok (.if_icmp .eq 16, 3) := by decide +kernel
theorem dX11_circles_17 : decode cX11_circles 17 = .ok (.aload_n 0, 1) := by decide +kernel
theorem dX11_circles_18 : decode cX11_circles 18 = .ok (.getfield 19, 3) := by decide +kernel
theorem dX11_circles_21 : decode cX11_circles 21 = .ok (.iload_n 2, 1) := by decide +kernel
theorem dX11_circles_22 : decode cX11_circles 22 = .ok (.invokevirtual 137, 3) := by decide +kernel
theorem dX11_circles_25 : decode cX11_circles 25 = .ok (.ifCond .ne 5, 3) := by decide +kernel
theorem dX11_circles_28 : decode cX11_circles 28 = .ok (.iconst (-1), 1) := by decide +kernel
theorem dX11_circles_29 : decode cX11_circles 29 = .ok (.ireturn, 1) := by decide +kernel
theorem dX11_circles_30 : decode cX11_circles 30 = .ok (.aload_n 0, 1) := by decide +kernel
theorem dX11_circles_31 : decode cX11_circles 31 = .ok (.getfield 60, 3) := by decide +kernel
theorem dX11_circles_34 : decode cX11_circles 34 = .ok (.aload_n 0, 1) := by decide +kernel
theorem dX11_circles_35 : decode cX11_circles 35 = .ok (.getfield 19, 3) := by decide +kernel
theorem dX11_circles_38 : decode cX11_circles 38 = .ok (.iload_n 1, 1) := by decide +kernel
theorem dX11_circles_39 : decode cX11_circles 39 = .ok (.invokevirtual 208, 3) := by decide +kernel
theorem dX11_circles_42 : decode cX11_circles 42 = .ok (.iload_n 2, 1) := by decide +kernel
theorem dX11_circles_43 : decode cX11_circles 43 = .ok (.bipush 100, 2) := by decide +kernel
theorem dX11_circles_45 : decode cX11_circles 45 = .ok (.if_icmp .ne 20, 3) := by decide +kernel
theorem dX11_circles_48 : decode cX11_circles 48 = .ok (.aload_n 0, 1) := by decide +kernel
theorem dX11_circles_49 : decode cX11_circles 49 = .ok (.getfield 60, 3) := by decide +kernel
theorem dX11_circles_52 : decode cX11_circles 52 = .ok (.aload_n 0, 1) := by decide +kernel
theorem dX11_circles_53 : decode cX11_circles 53 = .ok (.getfield 19, 3) := by decide +kernel
theorem dX11_circles_56 : decode cX11_circles 56 = .ok (.getfield 212, 3) := by decide +kernel
theorem dX11_circles_59 : decode cX11_circles 59 = .ok (.invokevirtual 215, 3) := by decide +kernel
theorem dX11_circles_62 : decode cX11_circles 62 = .ok (.goto 18, 3) := by decide +kernel
theorem dX11_circles_65 : decode cX11_circles 65 = .ok (.aload_n 0, 1) := by decide +kernel
theorem dX11_circles_66 : decode cX11_circles 66 = .ok (.getfield 60, 3) := by decide +kernel
theorem dX11_circles_69 : decode cX11_circles 69 = .ok (.iload_n 2, 1) := by decide +kernel
theorem dX11_circles_70 : decode cX11_circles 70 = .ok (.aload_n 0, 1) := by decide +kernel
theorem dX11_circles_71 : decode cX11_circles 71 = .ok (.getfield 19, 3) := by decide +kernel
theorem dX11_circles_74 : decode cX11_circles 74 = .ok (.getfield 212, 3) := by decide +kernel
theorem dX11_circles_77 : decode cX11_circles 77 = .ok (.invokevirtual 218, 3) := by decide +kernel
theorem dX11_circles_80 : decode cX11_circles 80 = .ok (.ireturn, 1) := by decide +kernel
theorem dX11_keystones_0 : decode cX11_keystones 0 = .ok (.aload_n 0, 1) := by decide +kernel
theorem dX11_keystones_1 : decode cX11_keystones 1 = .ok (.getfield 19, 3) := by decide +kernel
theorem dX11_keystones_4 : decode cX11_keystones 4 = .ok (.invokestatic 221, 3) := by decide +kernel
theorem dX11_keystones_7 : decode cX11_keystones 7 = .ok (.ireturn, 1) := by decide +kernel
theorem dX11_steps_0 : decode cX11_steps 0 = .ok (.aload_n 0, 1) := by decide +kernel
theorem dX11_steps_1 : decode cX11_steps 1 = .ok (.getfield 19, 3) := by decide +kernel
theorem dX11_steps_4 : decode cX11_steps 4 = .ok (.iload_n 1, 1) := by decide +kernel
theorem dX11_steps_5 : decode cX11_steps 5 = .ok (.invokevirtual 137, 3) := by decide +kernel
theorem dX11_steps_8 : decode cX11_steps 8 = .ok (.ifCond .eq 14, 3) := by decide +kernel
theorem dX11_steps_11 : decode cX11_steps 11 = .ok (.aload_n 0, 1) := by decide +kernel
theorem dX11_steps_12 : decode cX11_steps 12 = .ok (.getfield 19, 3) := by decide +kernel
theorem dX11_steps_15 : decode cX11_steps 15 = .ok (.iload_n 2, 1) := by decide +kernel
theorem dX11_steps_16 : decode cX11_steps 16 = .ok (.invokevirtual 137, 3) := by decide +kernel
theorem dX11_steps_19 : decode cX11_steps 19 = .ok (.ifCond .ne 5, 3) := by decide +kernel
theorem dX11_steps_22 : decode cX11_steps 22 = .ok (.iconst (-1), 1) := by decide +kernel
theorem dX11_steps_23 : decode cX11_steps 23 = .ok (.ireturn, 1) := by decide +kernel
theorem dX11_steps_24 : decode cX11_steps 24 = .ok (.aload_n 0, 1) := by decide +kernel
theorem dX11_steps_25 : decode cX11_steps 25 = .ok (.getfield 19, 3) := by decide +kernel
theorem dX11_steps_28 : decode cX11_steps 28 = .ok (.iload_n 1, 1) := by decide +kernel
theorem dX11_steps_29 : decode cX11_steps 29 = .ok (.iload_n 2, 1) := by decide +kernel
theorem dX11_steps_30 : decode cX11_steps 30 = .ok (.invokestatic 224, 3) := by decide +kernel
theorem dX11_steps_33 : decode cX11_steps 33 = .ok (.ireturn, 1) := by decide +kernel
theorem dX11_guess_0 : decode cX11_guess 0 = .ok (.iload_n 2, 1) := by decide +kernel
theorem dX11_guess_1 : decode cX11_guess 1 = .ok (.ifCond .lt 13, 3) := by decide +kernel
theorem dX11_guess_4 : decode cX11_guess 4 = .ok (.iload_n 2, 1) := by decide +kernel
theorem dX11_guess_5 : decode cX11_guess 5 = .ok (.bipush 16, 2) := by decide +kernel
theorem dX11_guess_7 : decode cX11_guess 7 = .ok (.if_icmp .ge 7, 3) := by decide +kernel
theorem dX11_guess_10 : decode cX11_guess 10 = .ok (.iconst 1, 1) := by decide +kernel
theorem dX11_guess_11 : decode cX11_guess 11 = .ok (.goto 4, 3) := by decide +kernel
theorem dX11_guess_14 : decode cX11_guess 14 = .ok (.iconst 0, 1) := by decide +kernel
theorem dX11_guess_15 : decode cX11_guess 15 = .ok (.istore_n 3, 1) := by decide +kernel
theorem dX11_guess_16 : decode cX11_guess 16 = .ok (.iload_n 2, 1) := by decide +kernel
theorem dX11_guess_17 : decode cX11_guess 17 = .ok (.bipush 20, 2) := by decide +kernel
theorem dX11_guess_19 : decode cX11_guess 19 = .ok (.if_icmp .lt 13, 3) := by decide +kernel
theorem dX11_guess_22 : decode cX11_guess 22 = .ok (.iload_n 2, 1) := by decide +kernel
theorem dX11_guess_23 : decode cX11_guess 23 = .ok (.bipush 36, 2) := by decide +kernel
theorem dX11_guess_25 : decode cX11_guess 25 = .ok (.if_icmp .ge 7, 3) := by decide +kernel
theorem dX11_guess_28 : decode cX11_guess 28 = .ok (.iconst 1, 1) := by decide +kernel
theorem dX11_guess_29 : decode cX11_guess 29 = .ok (.goto 4, 3) := by decide +kernel
theorem dX11_guess_32 : decode cX11_guess 32 = .ok (.iconst 0, 1) := by decide +kernel
theorem dX11_guess_33 : decode cX11_guess 33 = .ok (.istore 4, 2) := by decide +kernel
theorem dX11_guess_35 : decode cX11_guess 35 = .ok (.iload_n 3, 1) := by decide +kernel
theorem dX11_guess_36 : decode cX11_guess 36 = .ok (.ifCond .ne 16, 3) := by decide +kernel
theorem dX11_guess_39 : decode cX11_guess 39 = .ok (.iload 4, 2) := by decide +kernel
theorem dX11_guess_41 : decode cX11_guess 41 = .ok (.ifCond .ne 11, 3) := by decide +kernel
theorem dX11_guess_44 : decode cX11_guess 44 = .ok (.iload_n 2, 1) := by decide +kernel
theorem dX11_guess_45 : decode cX11_guess 45 = .ok (.bipush 100, 2) := by decide +kernel
theorem dX11_guess_47 : decode cX11_guess 47 = .ok (.if_icmp .eq 5, 3) := by decide +kernel
theorem dX11_guess_50 : decode cX11_guess 50 = .ok (.iconst (-1), 1) := by decide +kernel
theorem dX11_guess_51 : decode cX11_guess 51 = .ok (.ireturn, 1) := by decide +kernel
theorem dX11_guess_52 : decode cX11_guess 52 = .ok (.iload_n 1, 1) := by decide +kernel
theorem dX11_guess_53 : decode cX11_guess 53 = .ok (.iconst 1, 1) := by decide +kernel
theorem dX11_guess_54 : decode cX11_guess 54 = .ok (.if_icmp .lt 25, 3) := by decide +kernel
theorem dX11_guess_57 : decode cX11_guess 57 = .ok (.iload_n 1, 1) := by decide +kernel
theorem dX11_guess_58 : decode cX11_guess 58 = .ok (.bipush 12, 2) := by decide +kernel
theorem dX11_guess_60 : decode cX11_guess 60 = .ok (.if_icmp .gt 19, 3) := by decide +kernel
theorem dX11_guess_63 : decode cX11_guess 63 = .ok (.aload_n 0, 1) := by decide +kernel
theorem dX11_guess_64 : decode cX11_guess 64 = .ok (.getfield 12, 3) := by decide +kernel
theorem dX11_guess_67 : decode cX11_guess 67 = .ok (.iconst 2, 1) := by decide +kernel
theorem dX11_guess_68 : decode cX11_guess 68 = .ok (.iload_n 1, 1) := by decide +kernel
theorem dX11_guess_69 : decode cX11_guess 69 = .ok (.imul, 1) := by decide +kernel
theorem dX11_guess_70 : decode cX11_guess 70 = .ok (.iconst 2, 1) := by decide +kernel
theorem dX11_guess_71 : decode cX11_guess 71 = .ok (.bipush 24, 2) := by decide +kernel
theorem dX11_guess_73 : decode cX11_guess 73 = .ok (.invokevirtual 79, 3) := by decide +kernel
theorem dX11_guess_76 : decode cX11_guess 76 = .ok (.ifCond .ne 5, 3) := by decide +kernel
theorem dX11_guess_79 : decode cX11_guess 79 = .ok (.iconst (-1), 1) := by decide +kernel
theorem dX11_guess_80 : decode cX11_guess 80 = .ok (.ireturn, 1) := by decide +kernel
theorem dX11_guess_81 : decode cX11_guess 81 = .ok (.aload_n 0, 1) := by decide +kernel
theorem dX11_guess_82 : decode cX11_guess 82 = .ok (.getfield 12, 3) := by decide +kernel
theorem dX11_guess_85 : decode cX11_guess 85 = .ok (.iconst 2, 1) := by decide +kernel
theorem dX11_guess_86 : decode cX11_guess 86 = .ok (.iload_n 1, 1) := by decide +kernel
theorem dX11_guess_87 : decode cX11_guess 87 = .ok (.imul, 1) := by decide +kernel
theorem dX11_guess_88 : decode cX11_guess 88 = .ok (.invokevirtual 83, 3) := by decide +kernel
theorem dX11_guess_91 : decode cX11_guess 91 = .ok (.aload_n 0, 1) := by decide +kernel
theorem dX11_guess_92 : decode cX11_guess 92 = .ok (.getfield 12, 3) := by decide +kernel
theorem dX11_guess_95 : decode cX11_guess 95 = .ok (.aload_n 0, 1) := by decide +kernel
theorem dX11_guess_96 : decode cX11_guess 96 = .ok (.getfield 19, 3) := by decide +kernel
theorem dX11_guess_99 : decode cX11_guess 99 = .ok (.iload_n 1, 1) := by decide +kernel
theorem dX11_guess_100 : decode cX11_guess 100 = .ok (.invokestatic 227, 3) := by decide +kernel
theorem dX11_guess_103 : decode cX11_guess 103 = .ok (.ifCond .ne 6, 3) := by decide +kernel
theorem dX11_guess_106 : decode cX11_guess 106 = .ok (.bipush (-3), 2) := by decide +kernel
theorem dX11_guess_108 : decode cX11_guess 108 = .ok (.ireturn, 1) := by decide +kernel
theorem dX11_guess_109 : decode cX11_guess 109 = .ok (.iload_n 2, 1) := by decide +kernel
theorem dX11_guess_110 : decode cX11_guess 110 = .ok (.bipush 100, 2) := by decide +kernel
theorem dX11_guess_112 : decode cX11_guess 112 = .ok (.if_icmp .ne 16, 3) := by decide +kernel
theorem dX11_guess_115 : decode cX11_guess 115 = .ok (.aload_n 0, 1) := by decide +kernel
theorem dX11_guess_116 : decode cX11_guess 116 = .ok (.getfield 12, 3) := by decide +kernel
theorem dX11_guess_119 : decode cX11_guess 119 = .ok (.aload_n 0, 1) := by decide +kernel
theorem dX11_guess_120 : decode cX11_guess 120 = .ok (.getfield 19, 3) := by decide +kernel
theorem dX11_guess_123 : decode cX11_guess 123 = .ok (.iload_n 1, 1) := by decide +kernel
theorem dX11_guess_124 : decode cX11_guess 124 = .ok (.invokestatic 231, 3) := by decide +kernel
theorem dX11_guess_127 : decode cX11_guess 127 = .ok (.ireturn, 1) := by decide +kernel
theorem dX11_guess_128 : decode cX11_guess 128 = .ok (.iload_n 3, 1) := by decide +kernel
theorem dX11_guess_129 : decode cX11_guess 129 = .ok (.ifCond .eq 7, 3) := by decide +kernel
theorem dX11_guess_132 : decode cX11_guess 132 = .ok (.iload_n 2, 1) := by decide +kernel
theorem dX11_guess_133 : decode cX11_guess 133 = .ok (.goto 7, 3) := by decide +kernel
theorem dX11_guess_136 : decode cX11_guess 136 = .ok (.iload_n 2, 1) := by decide +kernel
theorem dX11_guess_137 : decode cX11_guess 137 = .ok (.bipush 20, 2) := by decide +kernel
theorem dX11_guess_139 : decode cX11_guess 139 = .ok (.isub, 1) := by decide +kernel
theorem dX11_guess_140 : decode cX11_guess 140 = .ok (.istore 5, 2) := by decide +kernel
theorem dX11_guess_142 : decode cX11_guess 142 = .ok (.aload_n 0, 1) := by decide +kernel
theorem dX11_guess_143 : decode cX11_guess 143 = .ok (.getfield 12, 3) := by decide +kernel
theorem dX11_guess_146 : decode cX11_guess 146 = .ok (.aload_n 0, 1) := by decide +kernel
theorem dX11_guess_147 : decode cX11_guess 147 = .ok (.getfield 19, 3) := by decide +kernel
theorem dX11_guess_150 : decode cX11_guess 150 = .ok (.iload_n 1, 1) := by decide +kernel
theorem dX11_guess_151 : decode cX11_guess 151 = .ok (.iload 5, 2) := by decide +kernel
theorem dX11_guess_153 : decode cX11_guess 153 = .ok (.invokestatic 235, 3) := by decide +kernel
theorem dX11_guess_156 : decode cX11_guess 156 = .ok (.istore 6, 2) := by decide +kernel
theorem dX11_guess_158 : decode cX11_guess 158 = .ok (.aload_n 0, 1) := by decide +kernel
theorem dX11_guess_159 : decode cX11_guess 159 = .ok (.getfield 12, 3) := by decide +kernel
theorem dX11_guess_162 : decode cX11_guess 162 = .ok (.aload_n 0, 1) := by decide +kernel
theorem dX11_guess_163 : decode cX11_guess 163 = .ok (.getfield 19, 3) := by decide +kernel
theorem dX11_guess_166 : decode cX11_guess 166 = .ok (.iload_n 1, 1) := by decide +kernel
theorem dX11_guess_167 : decode cX11_guess 167 = .ok (.iload 5, 2) := by decide +kernel
theorem dX11_guess_169 : decode cX11_guess 169 = .ok (.invokestatic 239, 3) := by decide +kernel
theorem dX11_guess_172 : decode cX11_guess 172 = .ok (.istore 7, 2) := by decide +kernel
theorem dX11_guess_174 : decode cX11_guess 174 = .ok (.iload 6, 2) := by decide +kernel
theorem dX11_guess_176 : decode cX11_guess 176 = .ok (.iload 7, 2) := by decide +kernel
theorem dX11_guess_178 : decode cX11_guess 178 = .ok (.if_icmp .le 6, 3) := by decide +kernel
theorem dX11_guess_181 : decode cX11_guess 181 = .ok (.bipush (-2), 2) := by decide +kernel
theorem dX11_guess_183 : decode cX11_guess 183 = .ok (.ireturn, 1) := by decide +kernel
theorem dX11_guess_184 : decode cX11_guess 184 = .ok (.iload_n 3, 1) := by decide +kernel
theorem dX11_guess_185 : decode cX11_guess 185 = .ok (.ifCond .eq 8, 3) := by decide +kernel
theorem dX11_guess_188 : decode cX11_guess 188 = .ok (.iload 6, 2) := by decide +kernel
theorem dX11_guess_190 : decode cX11_guess 190 = .ok (.goto 5, 3) := by decide +kernel
theorem dX11_guess_193 : decode cX11_guess 193 = .ok (.iload 7, 2) := by decide +kernel
theorem dX11_guess_195 : decode cX11_guess 195 = .ok (.ireturn, 1) := by decide +kernel
theorem dX11_sentNext_0 : decode cX11_sentNext 0 = .ok (.iload_n 1, 1) := by decide +kernel
theorem dX11_sentNext_1 : decode cX11_sentNext 1 = .ok (.iconst 1, 1) := by decide +kernel
theorem dX11_sentNext_2 : decode cX11_sentNext 2 = .ok (.if_icmp .lt 18, 3) := by decide +kernel
theorem dX11_sentNext_5 : decode cX11_sentNext 5 = .ok (.iload_n 1, 1) := by decide +kernel
theorem dX11_sentNext_6 : decode cX11_sentNext 6 = .ok (.ldc 242, 2) := by decide +kernel
theorem dX11_sentNext_8 : decode cX11_sentNext 8 = .ok (.if_icmp .gt 12, 3) := by decide +kernel
theorem dX11_sentNext_11 : decode cX11_sentNext 11 = .ok (.iload_n 2, 1) := by decide +kernel
theorem dX11_sentNext_12 : decode cX11_sentNext 12 = .ok (.ifCond .lt 8, 3) := by decide +kernel
theorem dX11_sentNext_15 : decode cX11_sentNext 15 = .ok (.iload_n 2, 1) := by decide +kernel
theorem dX11_sentNext_16 : decode cX11_sentNext 16 = .ok (.iconst 1, 1) := by decide +kernel
theorem dX11_sentNext_17 : decode cX11_sentNext 17 = .ok (.if_icmp .le 5, 3) := by decide +kernel
theorem dX11_sentNext_20 : decode cX11_sentNext 20 = .ok (.iconst (-1), 1) := by decide +kernel
theorem dX11_sentNext_21 : decode cX11_sentNext 21 = .ok (.ireturn, 1) := by decide +kernel
theorem dX11_sentNext_22 : decode cX11_sentNext 22 = .ok (.aload_n 0, 1) := by decide +kernel
theorem dX11_sentNext_23 : decode cX11_sentNext 23 = .ok (.getfield 19, 3) := by decide +kernel
theorem dX11_sentNext_26 : decode cX11_sentNext 26 = .ok (.iload_n 1, 1) := by decide +kernel
theorem dX11_sentNext_27 : decode cX11_sentNext 27 = .ok (.invokestatic 243, 3) := by decide +kernel
theorem dX11_sentNext_30 : decode cX11_sentNext 30 = .ok (.istore_n 3, 1) := by decide +kernel
theorem dX11_sentNext_31 : decode cX11_sentNext 31 = .ok (.iload_n 3, 1) := by decide +kernel
theorem dX11_sentNext_32 : decode cX11_sentNext 32 = .ok (.ifCond .ge 6, 3) := by decide +kernel
theorem dX11_sentNext_35 : decode cX11_sentNext 35 = .ok (.bipush (-2), 2) := by decide +kernel
theorem dX11_sentNext_37 : decode cX11_sentNext 37 = .ok (.ireturn, 1) := by decide +kernel
theorem dX11_sentNext_38 : decode cX11_sentNext 38 = .ok (.iload_n 2, 1) := by decide +kernel
theorem dX11_sentNext_39 : decode cX11_sentNext 39 = .ok (.ifCond .ne 7, 3) := by decide +kernel
theorem dX11_sentNext_42 : decode cX11_sentNext 42 = .ok (.iload_n 3, 1) := by decide +kernel
theorem dX11_sentNext_43 : decode cX11_sentNext 43 = .ok (.goto 12, 3) := by decide +kernel
theorem dX11_sentNext_46 : decode cX11_sentNext 46 = .ok (.aload_n 0, 1) := by decide +kernel
theorem dX11_sentNext_47 : decode cX11_sentNext 47 = .ok (.getfield 19, 3) := by decide +kernel
theorem dX11_sentNext_50 : decode cX11_sentNext 50 = .ok (.iload_n 1, 1) := by decide +kernel
theorem dX11_sentNext_51 : decode cX11_sentNext 51 = .ok (.iload_n 3, 1) := by decide +kernel
theorem dX11_sentNext_52 : decode cX11_sentNext 52 = .ok (.invokestatic 246, 3) := by decide +kernel
theorem dX11_sentNext_55 : decode cX11_sentNext 55 = .ok (.ireturn, 1) := by decide +kernel
theorem dX11_guards_0 : decode cX11_guards 0 = .ok (.aload_n 0, 1) := by decide +kernel
theorem dX11_guards_1 : decode cX11_guards 1 = .ok (.getfield 12, 3) := by decide +kernel
theorem dX11_guards_4 : decode cX11_guards 4 = .ok (.iload_n 1, 1) := by decide +kernel
theorem dX11_guards_5 : decode cX11_guards 5 = .ok (.iconst 3, 1) := by decide +kernel
theorem dX11_guards_6 : decode cX11_guards 6 = .ok (.bipush 6, 2) := by decide +kernel
theorem dX11_guards_8 : decode cX11_guards 8 = .ok (.invokevirtual 79, 3) := by decide +kernel
theorem dX11_guards_11 : decode cX11_guards 11 = .ok (.ifCond .ne 5, 3) := by decide +kernel
theorem dX11_guards_14 : decode cX11_guards 14 = .ok (.iconst (-1), 1) := by decide +kernel
theorem dX11_guards_15 : decode cX11_guards 15 = .ok (.ireturn, 1) := by decide +kernel
theorem dX11_guards_16 : decode cX11_guards 16 = .ok (.aload_n 0, 1) := by decide +kernel
theorem dX11_guards_17 : decode cX11_guards 17 = .ok (.getfield 12, 3) := by decide +kernel
theorem dX11_guards_20 : decode cX11_guards 20 = .ok (.iload_n 1, 1) := by decide +kernel
theorem dX11_guards_21 : decode cX11_guards 21 = .ok (.invokevirtual 83, 3) := by decide +kernel
theorem dX11_guards_24 : decode cX11_guards 24 = .ok (.aload_n 0, 1) := by decide +kernel
theorem dX11_guards_25 : decode cX11_guards 25 = .ok (.getfield 67, 3) := by decide +kernel
theorem dX11_guards_28 : decode cX11_guards 28 = .ok (.aload_n 0, 1) := by decide +kernel
theorem dX11_guards_29 : decode cX11_guards 29 = .ok (.getfield 12, 3) := by decide +kernel
theorem dX11_guards_32 : decode cX11_guards 32 = .ok (.aload_n 0, 1) := by decide +kernel
theorem dX11_guards_33 : decode cX11_guards 33 = .ok (.getfield 19, 3) := by decide +kernel
theorem dX11_guards_36 : decode cX11_guards 36 = .ok (.iload_n 1, 1) := by decide +kernel
theorem dX11_guards_37 : decode cX11_guards 37 = .ok (.invokevirtual 249, 3) := by decide +kernel
theorem dX11_guards_40 : decode cX11_guards 40 = .ok (.ireturn, 1) := by decide +kernel
theorem dX11_word_0 : decode cX11_word 0 = .ok (.iload_n 1, 1) := by decide +kernel
theorem dX11_word_1 : decode cX11_word 1 = .ok (.iconst 1, 1) := by decide +kernel
theorem dX11_word_2 : decode cX11_word 2 = .ok (.if_icmp .lt 19, 3) := by decide +kernel
theorem dX11_word_5 : decode cX11_word 5 = .ok (.iload_n 1, 1) := by decide +kernel
theorem dX11_word_6 : decode cX11_word 6 = .ok (.bipush 8, 2) := by decide +kernel
theorem dX11_word_8 : decode cX11_word 8 = .ok (.if_icmp .gt 13, 3) := by decide +kernel
theorem dX11_word_11 : decode cX11_word 11 = .ok (.iload_n 2, 1) := by decide +kernel
theorem dX11_word_12 : decode cX11_word 12 = .ok (.ifCond .lt 9, 3) := by decide +kernel
theorem dX11_word_15 : decode cX11_word 15 = .ok (.iload_n 2, 1) := by decide +kernel
theorem dX11_word_16 : decode cX11_word 16 = .ok (.ldc 242, 2) := by decide +kernel
theorem dX11_word_18 : decode cX11_word 18 = .ok (.if_icmp .le 7, 3) := by decide +kernel
theorem dX11_word_21 : decode cX11_word 21 = .ok (.ldc2_w 252, 3) := by decide +kernel
theorem dX11_word_24 : decode cX11_word 24 = .ok (.lreturn, 1) := by decide +kernel
theorem dX11_word_25 : decode cX11_word 25 = .ok (.iload_n 3, 1) := by decide +kernel
theorem dX11_word_26 : decode cX11_word 26 = .ok (.ifCond .lt 10, 3) := by decide +kernel
theorem dX11_word_29 : decode cX11_word 29 = .ok (.iload_n 3, 1) := by decide +kernel
theorem dX11_word_30 : decode cX11_word 30 = .ok (.sipush 128, 3) := by decide +kernel
theorem dX11_word_33 : decode cX11_word 33 = .ok (.if_icmp .le 7, 3) := by decide +kernel
theorem dX11_word_36 : decode cX11_word 36 = .ok (.ldc2_w 252, 3) := by decide +kernel
theorem dX11_word_39 : decode cX11_word 39 = .ok (.lreturn, 1) := by decide +kernel
theorem dX11_word_40 : decode cX11_word 40 = .ok (.aload_n 0, 1) := by decide +kernel
theorem dX11_word_41 : decode cX11_word 41 = .ok (.getfield 67, 3) := by decide +kernel
theorem dX11_word_44 : decode cX11_word 44 = .ok (.iload_n 1, 1) := by decide +kernel
theorem dX11_word_45 : decode cX11_word 45 = .ok (.iload_n 2, 1) := by decide +kernel
theorem dX11_word_46 : decode cX11_word 46 = .ok (.iload_n 3, 1) := by decide +kernel
theorem dX11_word_47 : decode cX11_word 47 = .ok (.invokevirtual 254, 3) := by decide +kernel
theorem dX11_word_50 : decode cX11_word 50 = .ok (.lreturn, 1) := by decide +kernel
theorem dX11_rooms_0 : decode cX11_rooms 0 = .ok (.iload_n 2, 1) := by decide +kernel
theorem dX11_rooms_1 : decode cX11_rooms 1 = .ok (.ifCond .lt 23, 3) := by decide +kernel
theorem dX11_rooms_4 : decode cX11_rooms 4 = .ok (.iload_n 2, 1) := by decide +kernel
theorem dX11_rooms_5 : decode cX11_rooms 5 = .ok (.bipush 99, 2) := by decide +kernel
theorem dX11_rooms_7 : decode cX11_rooms 7 = .ok (.if_icmp .gt 17, 3) := by decide +kernel
theorem dX11_rooms_10 : decode cX11_rooms 10 = .ok (.aload_n 0, 1) := by decide +kernel
theorem dX11_rooms_11 : decode cX11_rooms 11 = .ok (.getfield 12, 3) := by decide +kernel
theorem dX11_rooms_14 : decode cX11_rooms 14 = .ok (.iload_n 1, 1) := by decide +kernel
theorem dX11_rooms_15 : decode cX11_rooms 15 = .ok (.iconst 1, 1) := by decide +kernel
theorem dX11_rooms_16 : decode cX11_rooms 16 = .ok (.bipush 12, 2) := by decide +kernel
theorem dX11_rooms_18 : decode cX11_rooms 18 = .ok (.invokevirtual 79, 3) := by decide +kernel
theorem dX11_rooms_21 : decode cX11_rooms 21 = .ok (.ifCond .ne 5, 3) := by decide +kernel
theorem dX11_rooms_24 : decode cX11_rooms 24 = .ok (.iconst (-1), 1) := by decide +kernel
theorem dX11_rooms_25 : decode cX11_rooms 25 = .ok (.ireturn, 1) := by decide +kernel
theorem dX11_rooms_26 : decode cX11_rooms 26 = .ok (.aload_n 0, 1) := by decide +kernel
theorem dX11_rooms_27 : decode cX11_rooms 27 = .ok (.getfield 12, 3) := by decide +kernel
theorem dX11_rooms_30 : decode cX11_rooms 30 = .ok (.iload_n 1, 1) := by decide +kernel
theorem dX11_rooms_31 : decode cX11_rooms 31 = .ok (.invokevirtual 83, 3) := by decide +kernel
theorem dX11_rooms_34 : decode cX11_rooms 34 = .ok (.iconst 0, 1) := by decide +kernel
theorem dX11_rooms_35 : decode cX11_rooms 35 = .ok (.istore_n 3, 1) := by decide +kernel
theorem dX11_rooms_36 : decode cX11_rooms 36 = .ok (.iload_n 3, 1) := by decide +kernel
theorem dX11_rooms_37 : decode cX11_rooms 37 = .ok (.iload_n 1, 1) := by decide +kernel
theorem dX11_rooms_38 : decode cX11_rooms 38 = .ok (.if_icmp .ge 25, 3) := by decide +kernel
theorem dX11_rooms_41 : decode cX11_rooms 41 = .ok (.aload_n 0, 1) := by decide +kernel
theorem dX11_rooms_42 : decode cX11_rooms 42 = .ok (.getfield 12, 3) := by decide +kernel
theorem dX11_rooms_45 : decode cX11_rooms 45 = .ok (.iload_n 3, 1) := by decide +kernel
theorem dX11_rooms_46 : decode cX11_rooms 46 = .ok (.invokevirtual 258, 3) := by decide +kernel
theorem dX11_rooms_49 : decode cX11_rooms 49 = .ok (.bipush 16, 2) := by decide +kernel
theorem dX11_rooms_51 : decode cX11_rooms 51 = .ok (.if_icmp .lt 6, 3) := by decide +kernel
theorem dX11_rooms_54 : decode cX11_rooms 54 = .ok (.bipush (-3), 2) := by decide +kernel
theorem dX11_rooms_56 : decode cX11_rooms 56 = .ok (.ireturn, 1) := by decide +kernel
theorem dX11_rooms_57 : decode cX11_rooms 57 = .ok (.iinc 3 1, 3) := by decide +kernel
theorem dX11_rooms_60 : decode cX11_rooms 60 = .ok (.goto (-24), 3) := by decide +kernel
theorem dX11_rooms_63 : decode cX11_rooms 63 = .ok (.aload_n 0, 1) := by decide +kernel
theorem dX11_rooms_64 : decode cX11_rooms 64 = .ok (.getfield 12, 3) := by decide +kernel
theorem dX11_rooms_67 : decode cX11_rooms 67 = .ok (.iload_n 1, 1) := by decide +kernel
theorem dX11_rooms_68 : decode cX11_rooms 68 = .ok (.iload_n 2, 1) := by decide +kernel
theorem dX11_rooms_69 : decode cX11_rooms 69 = .ok (.invokestatic 261, 3) := by decide +kernel
theorem dX11_rooms_72 : decode cX11_rooms 72 = .ok (.ireturn, 1) := by decide +kernel
theorem dX11_seed_0 : decode cX11_seed 0 = .ok (.iload_n 1, 1) := by decide +kernel
theorem dX11_seed_1 : decode cX11_seed 1 = .ok (.ifCond .lt 9, 3) := by decide +kernel
theorem dX11_seed_4 : decode cX11_seed 4 = .ok (.iload_n 1, 1) := by decide +kernel
theorem dX11_seed_5 : decode cX11_seed 5 = .ok (.ldc 242, 2) := by decide +kernel
theorem dX11_seed_7 : decode cX11_seed 7 = .ok (.if_icmp .le 5, 3) := by decide +kernel
theorem dX11_seed_10 : decode cX11_seed 10 = .ok (.iconst 0, 1) := by decide +kernel
theorem dX11_seed_11 : decode cX11_seed 11 = .ok (.ireturn, 1) := by decide +kernel
theorem dX11_seed_12 : decode cX11_seed 12 = .ok (.aload_n 0, 1) := by decide +kernel
theorem dX11_seed_13 : decode cX11_seed 13 = .ok (.getfield 19, 3) := by decide +kernel
theorem dX11_seed_16 : decode cX11_seed 16 = .ok (.iload_n 1, 1) := by decide +kernel
theorem dX11_seed_17 : decode cX11_seed 17 = .ok (.putfield 265, 3) := by decide +kernel
theorem dX11_seed_20 : decode cX11_seed 20 = .ok (.iconst 1, 1) := by decide +kernel
theorem dX11_seed_21 : decode cX11_seed 21 = .ok (.ireturn, 1) := by decide +kernel
theorem dX11_keep_0 : decode cX11_keep 0 = .ok (.aload_n 0, 1) := by decide +kernel
theorem dX11_keep_1 : decode cX11_keep 1 = .ok (.getfield 26, 3) := by decide +kernel
theorem dX11_keep_4 : decode cX11_keep 4 = .ok (.aload_n 0, 1) := by decide +kernel
theorem dX11_keep_5 : decode cX11_keep 5 = .ok (.getfield 19, 3) := by decide +kernel
theorem dX11_keep_8 : decode cX11_keep 8 = .ok (.invokevirtual 98, 3) := by decide +kernel
theorem dX11_keep_11 : decode cX11_keep 11 = .ok (.aload_n 0, 1) := by decide +kernel
theorem dX11_keep_12 : decode cX11_keep 12 = .ok (.iconst 1, 1) := by decide +kernel
theorem dX11_keep_13 : decode cX11_keep 13 = .ok (.putfield 29, 3) := by decide +kernel
theorem dX11_keep_16 : decode cX11_keep 16 = .ok (.aload_n 0, 1) := by decide +kernel
theorem dX11_keep_17 : decode cX11_keep 17 = .ok (.getfield 19, 3) := by decide +kernel
theorem dX11_keep_20 : decode cX11_keep 20 = .ok (.getfield 268, 3) := by decide +kernel
theorem dX11_keep_23 : decode cX11_keep 23 = .ok (.ireturn, 1) := by decide +kernel
theorem dX11_undo_0 : decode cX11_undo 0 = .ok (.aload_n 0, 1) := by decide +kernel
theorem dX11_undo_1 : decode cX11_undo 1 = .ok (.getfield 29, 3) := by decide +kernel
theorem dX11_undo_4 : decode cX11_undo 4 = .ok (.ifCond .ne 5, 3) := by decide +kernel
theorem dX11_undo_7 : decode cX11_undo 7 = .ok (.iconst 0, 1) := by decide +kernel
theorem dX11_undo_8 : decode cX11_undo 8 = .ok (.ireturn, 1) := by decide +kernel
theorem dX11_undo_9 : decode cX11_undo 9 = .ok (.aload_n 0, 1) := by decide +kernel
theorem dX11_undo_10 : decode cX11_undo 10 = .ok (.getfield 19, 3) := by decide +kernel
theorem dX11_undo_13 : decode cX11_undo 13 = .ok (.aload_n 0, 1) := by decide +kernel
theorem dX11_undo_14 : decode cX11_undo 14 = .ok (.getfield 26, 3) := by decide +kernel
theorem dX11_undo_17 : decode cX11_undo 17 = .ok (.invokevirtual 271, 3) := by decide +kernel
theorem dX11_undo_20 : decode cX11_undo 20 = .ok (.iconst 1, 1) := by decide +kernel
theorem dX11_undo_21 : decode cX11_undo 21 = .ok (.ireturn, 1) := by decide +kernel
theorem dX11_check_0 : decode cX11_check 0 = .ok (.aload_n 0, 1) := by decide +kernel
theorem dX11_check_1 : decode cX11_check 1 = .ok (.getfield 12, 3) := by decide +kernel
theorem dX11_check_4 : decode cX11_check 4 = .ok (.iload_n 1, 1) := by decide +kernel
theorem dX11_check_5 : decode cX11_check 5 = .ok (.iconst 0, 1) := by decide +kernel
theorem dX11_check_6 : decode cX11_check 6 = .ok (.bipush 12, 2) := by decide +kernel
theorem dX11_check_8 : decode cX11_check 8 = .ok (.invokevirtual 79, 3) := by decide +kernel
theorem dX11_check_11 : decode cX11_check 11 = .ok (.ifCond .ne 6, 3) := by decide +kernel
theorem dX11_check_14 : decode cX11_check 14 = .ok (.bipush (-2), 2) := by decide +kernel
theorem dX11_check_16 : decode cX11_check 16 = .ok (.ireturn, 1) := by decide +kernel
theorem dX11_check_17 : decode cX11_check 17 = .ok (.aload_n 0, 1) := by decide +kernel
theorem dX11_check_18 : decode cX11_check 18 = .ok (.getfield 12, 3) := by decide +kernel
theorem dX11_check_21 : decode cX11_check 21 = .ok (.iload_n 1, 1) := by decide +kernel
theorem dX11_check_22 : decode cX11_check 22 = .ok (.invokevirtual 83, 3) := by decide +kernel
theorem dX11_check_25 : decode cX11_check 25 = .ok (.iconst 0, 1) := by decide +kernel
theorem dX11_check_26 : decode cX11_check 26 = .ok (.istore_n 2, 1) := by decide +kernel
theorem dX11_check_27 : decode cX11_check 27 = .ok (.iload_n 2, 1) := by decide +kernel
theorem dX11_check_28 : decode cX11_check 28 = .ok (.iload_n 1, 1) := by decide +kernel
theorem dX11_check_29 : decode cX11_check 29 = .ok (.if_icmp .ge 49, 3) := by decide +kernel
theorem dX11_check_32 : decode cX11_check 32 = .ok (.aload_n 0, 1) := by decide +kernel
theorem dX11_check_33 : decode cX11_check 33 = .ok (.getfield 19, 3) := by decide +kernel
theorem dX11_check_36 : decode cX11_check 36 = .ok (.iload_n 2, 1) := by decide +kernel
theorem dX11_check_37 : decode cX11_check 37 = .ok (.invokevirtual 137, 3) := by decide +kernel
theorem dX11_check_40 : decode cX11_check 40 = .ok (.ifCond .eq 14, 3) := by decide +kernel
theorem dX11_check_43 : decode cX11_check 43 = .ok (.aload_n 0, 1) := by decide +kernel
theorem dX11_check_44 : decode cX11_check 44 = .ok (.getfield 19, 3) := by decide +kernel
theorem dX11_check_47 : decode cX11_check 47 = .ok (.iload_n 2, 1) := by decide +kernel
theorem dX11_check_48 : decode cX11_check 48 = .ok (.invokevirtual 131, 3) := by decide +kernel
theorem dX11_check_51 : decode cX11_check 51 = .ok (.goto 6, 3) := by decide +kernel
theorem dX11_check_54 : decode cX11_check 54 = .ok (.sipush 255, 3) := by decide +kernel
theorem dX11_check_57 : decode cX11_check 57 = .ok (.istore_n 3, 1) := by decide +kernel
theorem dX11_check_58 : decode cX11_check 58 = .ok (.aload_n 0, 1) := by decide +kernel
theorem dX11_check_59 : decode cX11_check 59 = .ok (.getfield 12, 3) := by decide +kernel
theorem dX11_check_62 : decode cX11_check 62 = .ok (.iload_n 2, 1) := by decide +kernel
theorem dX11_check_63 : decode cX11_check 63 = .ok (.invokevirtual 258, 3) := by decide +kernel
theorem dX11_check_66 : decode cX11_check 66 = .ok (.iload_n 3, 1) := by decide +kernel
theorem dX11_check_67 : decode cX11_check 67 = .ok (.if_icmp .eq 5, 3) := by decide +kernel
theorem dX11_check_70 : decode cX11_check 70 = .ok (.iload_n 2, 1) := by decide +kernel
theorem dX11_check_71 : decode cX11_check 71 = .ok (.ireturn, 1) := by decide +kernel
theorem dX11_check_72 : decode cX11_check 72 = .ok (.iinc 2 1, 3) := by decide +kernel
theorem dX11_check_75 : decode cX11_check 75 = .ok (.goto (-48), 3) := by decide +kernel
theorem dX11_check_78 : decode cX11_check 78 = .ok (.iconst (-1), 1) := by decide +kernel
theorem dX11_check_79 : decode cX11_check 79 = .ok (.ireturn, 1) := by decide +kernel
theorem dX11_count_0 : decode cX11_count 0 = .ok (.iload_n 1, 1) := by decide +kernel
theorem dX11_count_1 : decode cX11_count 1 = .ok (.tableswitch 111 0 7 #[47, 55, 63, 71, 79, 87, 95, 103], 47) := by decide +kernel
theorem dX11_count_48 : decode cX11_count 48 = .ok (.aload_n 0, 1) := by decide +kernel
theorem dX11_count_49 : decode cX11_count 49 = .ok (.getfield 19, 3) := by decide +kernel
theorem dX11_count_52 : decode cX11_count 52 = .ok (.getfield 268, 3) := by decide +kernel
theorem dX11_count_55 : decode cX11_count 55 = .ok (.ireturn, 1) := by decide +kernel
theorem dX11_count_56 : decode cX11_count 56 = .ok (.aload_n 0, 1) := by decide +kernel
theorem dX11_count_57 : decode cX11_count 57 = .ok (.getfield 19, 3) := by decide +kernel
theorem dX11_count_60 : decode cX11_count 60 = .ok (.getfield 212, 3) := by decide +kernel
theorem dX11_count_63 : decode cX11_count 63 = .ok (.ireturn, 1) := by decide +kernel
theorem dX11_count_64 : decode cX11_count 64 = .ok (.aload_n 0, 1) := by decide +kernel
theorem dX11_count_65 : decode cX11_count 65 = .ok (.getfield 19, 3) := by decide +kernel
theorem dX11_count_68 : decode cX11_count 68 = .ok (.getfield 274, 3) := by decide +kernel
theorem dX11_count_71 : decode cX11_count 71 = .ok (.ireturn, 1) := by decide +kernel
theorem dX11_count_72 : decode cX11_count 72 = .ok (.aload_n 0, 1) := by decide +kernel
theorem dX11_count_73 : decode cX11_count 73 = .ok (.getfield 19, 3) := by decide +kernel
theorem dX11_count_76 : decode cX11_count 76 = .ok (.invokevirtual 277, 3) := by decide +kernel
theorem dX11_count_79 : decode cX11_count 79 = .ok (.ireturn, 1) := by decide +kernel
theorem dX11_count_80 : decode cX11_count 80 = .ok (.aload_n 0, 1) := by decide +kernel
theorem dX11_count_81 : decode cX11_count 81 = .ok (.getfield 19, 3) := by decide +kernel
theorem dX11_count_84 : decode cX11_count 84 = .ok (.invokevirtual 280, 3) := by decide +kernel
theorem dX11_count_87 : decode cX11_count 87 = .ok (.ireturn, 1) := by decide +kernel
theorem dX11_count_88 : decode cX11_count 88 = .ok (.aload_n 0, 1) := by decide +kernel
theorem dX11_count_89 : decode cX11_count 89 = .ok (.getfield 36, 3) := by decide +kernel
theorem dX11_count_92 : decode cX11_count 92 = .ok (.getfield 283, 3) := by decide +kernel
theorem dX11_count_95 : decode cX11_count 95 = .ok (.ireturn, 1) := by decide +kernel
theorem dX11_count_96 : decode cX11_count 96 = .ok (.aload_n 0, 1) := by decide +kernel
theorem dX11_count_97 : decode cX11_count 97 = .ok (.getfield 12, 3) := by decide +kernel
theorem dX11_count_100 : decode cX11_count 100 = .ok (.getfield 71, 3) := by decide +kernel
theorem dX11_count_103 : decode cX11_count 103 = .ok (.ireturn, 1) := by decide +kernel
theorem dX11_count_104 : decode cX11_count 104 = .ok (.aload_n 0, 1) := by decide +kernel
theorem dX11_count_105 : decode cX11_count 105 = .ok (.getfield 19, 3) := by decide +kernel
theorem dX11_count_108 : decode cX11_count 108 = .ok (.getfield 265, 3) := by decide +kernel
theorem dX11_count_111 : decode cX11_count 111 = .ok (.ireturn, 1) := by decide +kernel
theorem dX11_count_112 : decode cX11_count 112 = .ok (.iconst (-1), 1) := by decide +kernel
theorem dX11_count_113 : decode cX11_count 113 = .ok (.ireturn, 1) := by decide +kernel
theorem dX11_has_0 : decode cX11_has 0 = .ok (.iload_n 1, 1) := by decide +kernel
theorem dX11_has_1 : decode cX11_has 1 = .ok (.ifCond .lt 21, 3) := by decide +kernel
theorem dX11_has_4 : decode cX11_has 4 = .ok (.iload_n 1, 1) := by decide +kernel
theorem dX11_has_5 : decode cX11_has 5 = .ok (.bipush 32, 2) := by decide +kernel
theorem dX11_has_7 : decode cX11_has 7 = .ok (.if_icmp .ge 15, 3) := by decide +kernel
theorem dX11_has_10 : decode cX11_has 10 = .ok (.iload_n 0, 1) := by decide +kernel
theorem dX11_has_11 : decode cX11_has 11 = .ok (.iload_n 1, 1) := by decide +kernel
theorem dX11_has_12 : decode cX11_has 12 = .ok (.ishr, 1) := by decide +kernel
theorem dX11_has_13 : decode cX11_has 13 = .ok (.iconst 1, 1) := by decide +kernel
theorem dX11_has_14 : decode cX11_has 14 = .ok (.iand, 1) := by decide +kernel
theorem dX11_has_15 : decode cX11_has 15 = .ok (.ifCond .eq 7, 3) := by decide +kernel
theorem dX11_has_18 : decode cX11_has 18 = .ok (.iconst 1, 1) := by decide +kernel
theorem dX11_has_19 : decode cX11_has 19 = .ok (.goto 4, 3) := by decide +kernel
theorem dX11_has_22 : decode cX11_has 22 = .ok (.iconst 0, 1) := by decide +kernel
theorem dX11_has_23 : decode cX11_has 23 = .ok (.ireturn, 1) := by decide +kernel
theorem dX12_init_0 : decode cX12_init 0 = .ok (.aload_n 0, 1) := by decide +kernel
theorem dX12_init_1 : decode cX12_init 1 = .ok (.invokespecial 1, 3) := by decide +kernel
theorem dX12_init_4 : decode cX12_init 4 = .ok (.aload_n 0, 1) := by decide +kernel
theorem dX12_init_5 : decode cX12_init 5 = .ok (.sipush 210, 3) := by decide +kernel
theorem dX12_init_8 : decode cX12_init 8 = .ok (.newarray .int, 2) := by decide +kernel
theorem dX12_init_10 : decode cX12_init 10 = .ok (.putfield 7, 3) := by decide +kernel
theorem dX12_init_13 : decode cX12_init 13 = .ok (.aload_n 0, 1) := by decide +kernel
theorem dX12_init_14 : decode cX12_init 14 = .ok (.sipush 210, 3) := by decide +kernel
theorem dX12_init_17 : decode cX12_init 17 = .ok (.newarray .int, 2) := by decide +kernel
theorem dX12_init_19 : decode cX12_init 19 = .ok (.putfield 13, 3) := by decide +kernel
theorem dX12_init_22 : decode cX12_init 22 = .ok (.aload_n 0, 1) := by decide +kernel
theorem dX12_init_23 : decode cX12_init 23 = .ok (.sipush 210, 3) := by decide +kernel
theorem dX12_init_26 : decode cX12_init 26 = .ok (.newarray .int, 2) := by decide +kernel
theorem dX12_init_28 : decode cX12_init 28 = .ok (.putfield 16, 3) := by decide +kernel
theorem dX12_init_31 : decode cX12_init 31 = .ok (.aload_n 0, 1) := by decide +kernel
theorem dX12_init_32 : decode cX12_init 32 = .ok (.bipush 12, 2) := by decide +kernel
theorem dX12_init_34 : decode cX12_init 34 = .ok (.newarray .int, 2) := by decide +kernel
theorem dX12_init_36 : decode cX12_init 36 = .ok (.putfield 19, 3) := by decide +kernel
theorem dX12_init_39 : decode cX12_init 39 = .ok (.aload_n 0, 1) := by decide +kernel
theorem dX12_init_40 : decode cX12_init 40 = .ok (.bipush 12, 2) := by decide +kernel
theorem dX12_init_42 : decode cX12_init 42 = .ok (.newarray .int, 2) := by decide +kernel
theorem dX12_init_44 : decode cX12_init 44 = .ok (.putfield 22, 3) := by decide +kernel
theorem dX12_init_47 : decode cX12_init 47 = .ok (.aload_n 0, 1) := by decide +kernel
theorem dX12_init_48 : decode cX12_init 48 = .ok (.bipush 16, 2) := by decide +kernel
theorem dX12_init_50 : decode cX12_init 50 = .ok (.newarray .int, 2) := by decide +kernel
theorem dX12_init_52 : decode cX12_init 52 = .ok (.putfield 25, 3) := by decide +kernel
theorem dX12_init_55 : decode cX12_init 55 = .ok (.aload_n 0, 1) := by decide +kernel
theorem dX12_init_56 : decode cX12_init 56 = .ok (.bipush 16, 2) := by decide +kernel
theorem dX12_init_58 : decode cX12_init 58 = .ok (.newarray .int, 2) := by decide +kernel
theorem dX12_init_60 : decode cX12_init 60 = .ok (.putfield 28, 3) := by decide +kernel
theorem dX12_init_63 : decode cX12_init 63 = .ok (.aload_n 0, 1) := by decide +kernel
theorem dX12_init_64 : decode cX12_init 64 = .ok (.bipush 16, 2) := by decide +kernel
theorem dX12_init_66 : decode cX12_init 66 = .ok (.newarray .int, 2) := by decide +kernel
theorem dX12_init_68 : decode cX12_init 68 = .ok (.putfield 31, 3) := by decide +kernel
theorem dX12_init_71 : decode cX12_init 71 = .ok (.aload_n 0, 1) := by decide +kernel
theorem dX12_init_72 : decode cX12_init 72 = .ok (.bipush 16, 2) := by decide +kernel
theorem dX12_init_74 : decode cX12_init 74 = .ok (.newarray .int, 2) := by decide +kernel
theorem dX12_init_76 : decode cX12_init 76 = .ok (.putfield 34, 3) := by decide +kernel
theorem dX12_init_79 : decode cX12_init 79 = .ok (.aload_n 0, 1) := by decide +kernel
theorem dX12_init_80 : decode cX12_init 80 = .ok (.sipush 260, 3) := by decide +kernel
theorem dX12_init_83 : decode cX12_init 83 = .ok (.newarray .byte, 2) := by decide +kernel
theorem dX12_init_85 : decode cX12_init 85 = .ok (.putfield 37, 3) := by decide +kernel
theorem dX12_init_88 : decode cX12_init 88 = .ok (.aload_n 0, 1) := by decide +kernel
theorem dX12_init_89 : decode cX12_init 89 = .ok (.sipush 260, 3) := by decide +kernel
theorem dX12_init_92 : decode cX12_init 92 = .ok (.newarray .int, 2) := by decide +kernel
theorem dX12_init_94 : decode cX12_init 94 = .ok (.putfield 41, 3) := by decide +kernel
theorem dX12_init_97 : decode cX12_init 97 = .ok (.aload_n 0, 1) := by decide +kernel
theorem dX12_init_98 : decode cX12_init 98 = .ok (.sipush 260, 3) := by decide +kernel
theorem dX12_init_101 : decode cX12_init 101 = .ok (.newarray .int, 2) := by decide +kernel
theorem dX12_init_103 : decode cX12_init 103 = .ok (.putfield 44, 3) := by decide +kernel
theorem dX12_init_106 : decode cX12_init 106 = .ok (.aload_n 0, 1) := by decide +kernel
theorem dX12_init_107 : decode cX12_init 107 = .ok (.bipush 16, 2) := by decide +kernel
theorem dX12_init_109 : decode cX12_init 109 = .ok (.newarray .int, 2) := by decide +kernel
theorem dX12_init_111 : decode cX12_init 111 = .ok (.putfield 47, 3) := by decide +kernel
theorem dX12_init_114 : decode cX12_init 114 = .ok (.aload_n 0, 1) := by decide +kernel
theorem dX12_init_115 : decode cX12_init 115 = .ok (.bipush 16, 2) := by decide +kernel
theorem dX12_init_117 : decode cX12_init 117 = .ok (.newarray .int, 2) := by decide +kernel
theorem dX12_init_119 : decode cX12_init 119 = .ok (.putfield 50, 3) := by decide +kernel
theorem dX12_init_122 : decode cX12_init 122 = .ok (.aload_n 0, 1) := by decide +kernel
theorem dX12_init_123 : decode cX12_init 123 = .ok (.bipush 16, 2) := by decide +kernel
theorem dX12_init_125 : decode cX12_init 125 = .ok (.newarray .int, 2) := by decide +kernel
theorem dX12_init_127 : decode cX12_init 127 = .ok (.putfield 53, 3) := by decide +kernel
theorem dX12_init_130 : decode cX12_init 130 = .ok (.aload_n 0, 1) := by decide +kernel
theorem dX12_init_131 : decode cX12_init 131 = .ok (.bipush 16, 2) := by decide +kernel
theorem dX12_init_133 : decode cX12_init 133 = .ok (.newarray .int, 2) := by decide +kernel
theorem dX12_init_135 : decode cX12_init 135 = .ok (.putfield 56, 3) := by decide +kernel
theorem dX12_init_138 : decode cX12_init 138 = .ok (.aload_n 0, 1) := by decide +kernel
theorem dX12_init_139 : decode cX12_init 139 = .ok (.sipush 260, 3) := by decide +kernel
theorem dX12_init_142 : decode cX12_init 142 = .ok (.newarray .int, 2) := by decide +kernel
theorem dX12_init_144 : decode cX12_init 144 = .ok (.putfield 59, 3) := by decide +kernel
theorem dX12_init_147 : decode cX12_init 147 = .ok (.aload_n 0, 1) := by decide +kernel
theorem dX12_init_148 : decode cX12_init 148 = .ok (.bipush 16, 2) := by decide +kernel
theorem dX12_init_150 : decode cX12_init 150 = .ok (.newarray .int, 2) := by decide +kernel
theorem dX12_init_152 : decode cX12_init 152 = .ok (.putfield 62, 3) := by decide +kernel
theorem dX12_init_155 : decode cX12_init 155 = .ok (.aload_n 0, 1) := by decide +kernel
theorem dX12_init_156 : decode cX12_init 156 = .ok (.bipush 16, 2) := by decide +kernel
theorem dX12_init_158 : decode cX12_init 158 = .ok (.newarray .int, 2) := by decide +kernel
theorem dX12_init_160 : decode cX12_init 160 = .ok (.putfield 65, 3) := by decide +kernel
theorem dX12_init_163 : decode cX12_init 163 = .ok (.aload_n 0, 1) := by decide +kernel
theorem dX12_init_164 : decode cX12_init 164 = .ok (.bipush 16, 2) := by decide +kernel
theorem dX12_init_166 : decode cX12_init 166 = .ok (.newarray .int, 2) := by decide +kernel
theorem dX12_init_168 : decode cX12_init 168 = .ok (.putfield 68, 3) := by decide +kernel
theorem dX12_init_171 : decode cX12_init 171 = .ok (.aload_n 0, 1) := by decide +kernel
theorem dX12_init_172 : decode cX12_init 172 = .ok (.bipush 16, 2) := by decide +kernel
theorem dX12_init_174 : decode cX12_init 174 = .ok (.newarray .int, 2) := by decide +kernel
theorem dX12_init_176 : decode cX12_init 176 = .ok (.putfield 71, 3) := by decide +kernel
theorem dX12_init_179 : decode cX12_init 179 = .ok (.aload_n 0, 1) := by decide +kernel
theorem dX12_init_180 : decode cX12_init 180 = .ok (.sipush 260, 3) := by decide +kernel
theorem dX12_init_183 : decode cX12_init 183 = .ok (.newarray .int, 2) := by decide +kernel
theorem dX12_init_185 : decode cX12_init 185 = .ok (.putfield 74, 3) := by decide +kernel
theorem dX12_init_188 : decode cX12_init 188 = .ok (.aload_n 0, 1) := by decide +kernel
theorem dX12_init_189 : decode cX12_init 189 = .ok (.bipush 10, 2) := by decide +kernel
theorem dX12_init_191 : decode cX12_init 191 = .ok (.newarray .int, 2) := by decide +kernel
theorem dX12_init_193 : decode cX12_init 193 = .ok (.putfield 77, 3) := by decide +kernel
theorem dX12_init_196 : decode cX12_init 196 = .ok (.aload_n 0, 1) := by decide +kernel
theorem dX12_init_197 : decode cX12_init 197 = .ok (.bipush 12, 2) := by decide +kernel
theorem dX12_init_199 : decode cX12_init 199 = .ok (.newarray .int, 2) := by decide +kernel
theorem dX12_init_201 : decode cX12_init 201 = .ok (.putfield 80, 3) := by decide +kernel
theorem dX12_init_204 : decode cX12_init 204 = .ok (.aload_n 0, 1) := by decide +kernel
theorem dX12_init_205 : decode cX12_init 205 = .ok (.sipush 144, 3) := by decide +kernel
theorem dX12_init_208 : decode cX12_init 208 = .ok (.newarray .int, 2) := by decide +kernel
theorem dX12_init_210 : decode cX12_init 210 = .ok (.putfield 83, 3) := by decide +kernel
theorem dX12_init_213 : decode cX12_init 213 = .ok (.aload_n 0, 1) := by decide +kernel
theorem dX12_init_214 : decode cX12_init 214 = .ok (.sipush 4096, 3) := by decide +kernel
theorem dX12_init_217 : decode cX12_init 217 = .ok (.newarray .boolean, 2) := by decide +kernel
theorem dX12_init_219 : decode cX12_init 219 = .ok (.putfield 86, 3) := by decide +kernel
theorem dX12_init_222 : decode cX12_init 222 = .ok (.aload_n 0, 1) := by decide +kernel
theorem dX12_init_223 : decode cX12_init 223 = .ok (.sipush 4096, 3) := by decide +kernel
theorem dX12_init_226 : decode cX12_init 226 = .ok (.newarray .int, 2) := by decide +kernel
theorem dX12_init_228 : decode cX12_init 228 = .ok (.putfield 90, 3) := by decide +kernel
theorem dX12_init_231 : decode cX12_init 231 = .ok (.aload_n 0, 1) := by decide +kernel
theorem dX12_init_232 : decode cX12_init 232 = .ok (.bipush 16, 2) := by decide +kernel
theorem dX12_init_234 : decode cX12_init 234 = .ok (.newarray .int, 2) := by decide +kernel
theorem dX12_init_236 : decode cX12_init 236 = .ok (.putfield 93, 3) := by decide +kernel
theorem dX12_init_239 : decode cX12_init 239 = .ok (.aload_n 0, 1) := by decide +kernel
theorem dX12_init_240 : decode cX12_init 240 = .ok (.bipush 6, 2) := by decide +kernel
theorem dX12_init_242 : decode cX12_init 242 = .ok (.newarray .int, 2) := by decide +kernel
theorem dX12_init_244 : decode cX12_init 244 = .ok (.putfield 96, 3) := by decide +kernel
theorem dX12_init_247 : decode cX12_init 247 = .ok (.aload_n 0, 1) := by decide +kernel
theorem dX12_init_248 : decode cX12_init 248 = .ok (.sipush 129, 3) := by decide +kernel
theorem dX12_init_251 : decode cX12_init 251 = .ok (.newarray .long, 2) := by decide +kernel
theorem dX12_init_253 : decode cX12_init 253 = .ok (.putfield 99, 3) := by decide +kernel
theorem dX12_init_256 : decode cX12_init 256 = .ok (.aload_n 0, 1) := by decide +kernel
theorem dX12_init_257 : decode cX12_init 257 = .ok (.sipush 129, 3) := by decide +kernel
theorem dX12_init_260 : decode cX12_init 260 = .ok (.newarray .long, 2) := by decide +kernel
theorem dX12_init_262 : decode cX12_init 262 = .ok (.putfield 103, 3) := by decide +kernel
theorem dX12_init_265 : decode cX12_init 265 = .ok (.aload_n 0, 1) := by decide +kernel
theorem dX12_init_266 : decode cX12_init 266 = .ok (.ldc 106, 2) := by decide +kernel
theorem dX12_init_268 : decode cX12_init 268 = .ok (.newarray .int, 2) := by decide +kernel
theorem dX12_init_270 : decode cX12_init 270 = .ok (.putfield 107, 3) := by decide +kernel
theorem dX12_init_273 : decode cX12_init 273 = .ok (.aload_n 0, 1) := by decide +kernel
theorem dX12_init_274 : decode cX12_init 274 = .ok (.getfield 7, 3) := by decide +kernel
theorem dX12_init_277 : decode cX12_init 277 = .ok (.sipush 209, 3) := by decide +kernel
theorem dX12_init_280 : decode cX12_init 280 = .ok (.iconst 1, 1) := by decide +kernel
theorem dX12_init_281 : decode cX12_init 281 = .ok (.iastore, 1) := by decide +kernel
theorem dX12_init_282 : decode cX12_init 282 = .ok (.return_, 1) := by decide +kernel
theorem dX12_in_0 : decode cX12_in 0 = .ok (.iload_n 0, 1) := by decide +kernel
theorem dX12_in_1 : decode cX12_in 1 = .ok (.iload_n 1, 1) := by decide +kernel
theorem dX12_in_2 : decode cX12_in 2 = .ok (.if_icmp .lt 12, 3) := by decide +kernel
theorem dX12_in_5 : decode cX12_in 5 = .ok (.iload_n 0, 1) := by decide +kernel
theorem dX12_in_6 : decode cX12_in 6 = .ok (.iload_n 2, 1) := by decide +kernel
theorem dX12_in_7 : decode cX12_in 7 = .ok (.if_icmp .gt 7, 3) := by decide +kernel
theorem dX12_in_10 : decode cX12_in 10 = .ok (.iconst 1, 1) := by decide +kernel
theorem dX12_in_11 : decode cX12_in 11 = .ok (.goto 4, 3) := by decide +kernel
theorem dX12_in_14 : decode cX12_in 14 = .ok (.iconst 0, 1) := by decide +kernel
theorem dX12_in_15 : decode cX12_in 15 = .ok (.ireturn, 1) := by decide +kernel
theorem dX12_min_0 : decode cX12_min 0 = .ok (.iload_n 0, 1) := by decide +kernel
theorem dX12_min_1 : decode cX12_min 1 = .ok (.iload_n 1, 1) := by decide +kernel
theorem dX12_min_2 : decode cX12_min 2 = .ok (.if_icmp .ge 7, 3) := by decide +kernel
theorem dX12_min_5 : decode cX12_min 5 = .ok (.iload_n 0, 1) := by decide +kernel
theorem dX12_min_6 : decode cX12_min 6 = .ok (.goto 4, 3) := by decide +kernel
theorem dX12_min_9 : decode cX12_min 9 = .ok (.iload_n 1, 1) := by decide +kernel
theorem dX12_min_10 : decode cX12_min 10 = .ok (.ireturn, 1) := by decide +kernel
theorem dX12_max_0 : decode cX12_max 0 = .ok (.iload_n 0, 1) := by decide +kernel
theorem dX12_max_1 : decode cX12_max 1 = .ok (.iload_n 1, 1) := by decide +kernel
theorem dX12_max_2 : decode cX12_max 2 = .ok (.if_icmp .le 7, 3) := by decide +kernel
theorem dX12_max_5 : decode cX12_max 5 = .ok (.iload_n 0, 1) := by decide +kernel
theorem dX12_max_6 : decode cX12_max 6 = .ok (.goto 4, 3) := by decide +kernel
theorem dX12_max_9 : decode cX12_max 9 = .ok (.iload_n 1, 1) := by decide +kernel
theorem dX12_max_10 : decode cX12_max 10 = .ok (.ireturn, 1) := by decide +kernel
theorem dX12_has_0 : decode cX12_has 0 = .ok (.iload_n 0, 1) := by decide +kernel
theorem dX12_has_1 : decode cX12_has 1 = .ok (.iload_n 1, 1) := by decide +kernel
theorem dX12_has_2 : decode cX12_has 2 = .ok (.ishr, 1) := by decide +kernel
theorem dX12_has_3 : decode cX12_has 3 = .ok (.iconst 1, 1) := by decide +kernel
theorem dX12_has_4 : decode cX12_has 4 = .ok (.iand, 1) := by decide +kernel
theorem dX12_has_5 : decode cX12_has 5 = .ok (.iconst 1, 1) := by decide +kernel
theorem dX12_has_6 : decode cX12_has 6 = .ok (.if_icmp .ne 7, 3) := by decide +kernel
theorem dX12_has_9 : decode cX12_has 9 = .ok (.iconst 1, 1) := by decide +kernel
theorem dX12_has_10 : decode cX12_has 10 = .ok (.goto 4, 3) := by decide +kernel
theorem dX12_has_13 : decode cX12_has 13 = .ok (.iconst 0, 1) := by decide +kernel
theorem dX12_has_14 : decode cX12_has 14 = .ok (.ireturn, 1) := by decide +kernel
theorem dX12_bits_0 : decode cX12_bits 0 = .ok (.iconst 0, 1) := by decide +kernel
theorem dX12_bits_1 : decode cX12_bits 1 = .ok (.istore_n 1, 1) := by decide +kernel
theorem dX12_bits_2 : decode cX12_bits 2 = .ok (.iconst 0, 1) := by decide +kernel
theorem dX12_bits_3 : decode cX12_bits 3 = .ok (.istore_n 2, 1) := by decide +kernel
theorem dX12_bits_4 : decode cX12_bits 4 = .ok (.iload_n 2, 1) := by decide +kernel
theorem dX12_bits_5 : decode cX12_bits 5 = .ok (.bipush 16, 2) := by decide +kernel
theorem dX12_bits_7 : decode cX12_bits 7 = .ok (.if_icmp .ge 17, 3) := by decide +kernel
theorem dX12_bits_10 : decode cX12_bits 10 = .ok (.iload_n 1, 1) := by decide +kernel
theorem dX12_bits_11 : decode cX12_bits 11 = .ok (.iload_n 0, 1) := by decide +kernel
theorem dX12_bits_12 : decode cX12_bits 12 = .ok (.iload_n 2, 1) := by decide +kernel
theorem dX12_bits_13 : decode cX12_bits 13 = .ok (.ishr, 1) := by decide +kernel
theorem dX12_bits_14 : decode cX12_bits 14 = .ok (.iconst 1, 1) := by decide +kernel
theorem dX12_bits_15 : decode cX12_bits 15 = .ok (.iand, 1) := by decide +kernel
theorem dX12_bits_16 : decode cX12_bits 16 = .ok (.iadd, 1) := by decide +kernel
theorem dX12_bits_17 : decode cX12_bits 17 = .ok (.istore_n 1, 1) := by decide +kernel
theorem dX12_bits_18 : decode cX12_bits 18 = .ok (.iinc 2 1, 3) := by decide +kernel
theorem dX12_bits_21 : decode cX12_bits 21 = .ok (.goto (-17), 3) := by decide +kernel
theorem dX12_bits_24 : decode cX12_bits 24 = .ok (.iload_n 1, 1) := by decide +kernel
theorem dX12_bits_25 : decode cX12_bits 25 = .ok (.ireturn, 1) := by decide +kernel
theorem dX12_copies_0 : decode cX12_copies 0 = .ok (.iconst 0, 1) := by decide +kernel
theorem dX12_copies_1 : decode cX12_copies 1 = .ok (.istore_n 2, 1) := by decide +kernel
theorem dX12_copies_2 : decode cX12_copies 2 = .ok (.iload_n 2, 1) := by decide +kernel
theorem dX12_copies_3 : decode cX12_copies 3 = .ok (.sipush 210, 3) := by decide +kernel
theorem dX12_copies_6 : decode cX12_copies 6 = .ok (.if_icmp .ge 15, 3) := by decide +kernel
theorem dX12_copies_9 : decode cX12_copies 9 = .ok (.aload_n 1, 1) := by decide +kernel
theorem dX12_copies_10 : decode cX12_copies 10 = .ok (.iload_n 2, 1) := by decide +kernel
theorem dX12_copies_11 : decode cX12_copies 11 = .ok (.aload_n 0, 1) := by decide +kernel
theorem dX12_copies_12 : decode cX12_copies 12 = .ok (.iload_n 2, 1) := by decide +kernel
theorem dX12_copies_13 : decode cX12_copies 13 = .ok (.iaload, 1) := by decide +kernel
theorem dX12_copies_14 : decode cX12_copies 14 = .ok (.iastore, 1) := by decide +kernel
theorem dX12_copies_15 : decode cX12_copies 15 = .ok (.iinc 2 1, 3) := by decide +kernel
theorem dX12_copies_18 : decode cX12_copies 18 = .ok (.goto (-16), 3) := by decide +kernel
theorem dX12_copies_21 : decode cX12_copies 21 = .ok (.return_, 1) := by decide +kernel
theorem dX12_isTold_0 : decode cX12_isTold 0 = .ok (.iload_n 1, 1) := by decide +kernel
theorem dX12_isTold_1 : decode cX12_isTold 1 = .ok (.iconst 0, 1) := by decide +kernel
theorem dX12_isTold_2 : decode cX12_isTold 2 = .ok (.bipush 11, 2) := by decide +kernel
theorem dX12_isTold_4 : decode cX12_isTold 4 = .ok (.invokestatic 117, 3) := by decide +kernel
theorem dX12_isTold_7 : decode cX12_isTold 7 = .ok (.ifCond .eq 18, 3) := by decide +kernel
theorem dX12_isTold_10 : decode cX12_isTold 10 = .ok (.aload_n 0, 1) := by decide +kernel
theorem dX12_isTold_11 : decode cX12_isTold 11 = .ok (.getfield 121, 3) := by decide +kernel
theorem dX12_isTold_14 : decode cX12_isTold 14 = .ok (.iload_n 1, 1) := by decide +kernel
theorem dX12_isTold_15 : decode cX12_isTold 15 = .ok (.invokestatic 125, 3) := by decide +kernel
theorem dX12_isTold_18 : decode cX12_isTold 18 = .ok (.ifCond .eq 7, 3) := by decide +kernel
theorem dX12_isTold_21 : decode cX12_isTold 21 = .ok (.iconst 1, 1) := by decide +kernel
theorem dX12_isTold_22 : decode cX12_isTold 22 = .ok (.goto 4, 3) := by decide +kernel
theorem dX12_isTold_25 : decode cX12_isTold 25 = .ok (.iconst 0, 1) := by decide +kernel
theorem dX12_isTold_26 : decode cX12_isTold 26 = .ok (.ireturn, 1) := by decide +kernel
theorem dX12_isDoor_0 : decode cX12_isDoor 0 = .ok (.iload_n 1, 1) := by decide +kernel
theorem dX12_isDoor_1 : decode cX12_isDoor 1 = .ok (.iconst 0, 1) := by decide +kernel
theorem dX12_isDoor_2 : decode cX12_isDoor 2 = .ok (.bipush 15, 2) := by decide +kernel
theorem dX12_isDoor_4 : decode cX12_isDoor 4 = .ok (.invokestatic 117, 3) := by decide +kernel
theorem dX12_isDoor_7 : decode cX12_isDoor 7 = .ok (.ifCond .eq 18, 3) := by decide +kernel
theorem dX12_isDoor_10 : decode cX12_isDoor 10 = .ok (.aload_n 0, 1) := by decide +kernel
theorem dX12_isDoor_11 : decode cX12_isDoor 11 = .ok (.getfield 129, 3) := by decide +kernel
theorem dX12_isDoor_14 : decode cX12_isDoor 14 = .ok (.iload_n 1, 1) := by decide +kernel
theorem dX12_isDoor_15 : decode cX12_isDoor 15 = .ok (.invokestatic 125, 3) := by decide +kernel
theorem dX12_isDoor_18 : decode cX12_isDoor 18 = .ok (.ifCond .eq 7, 3) := by decide +kernel
theorem dX12_isDoor_21 : decode cX12_isDoor 21 = .ok (.iconst 1, 1) := by decide +kernel
theorem dX12_isDoor_22 : decode cX12_isDoor 22 = .ok (.goto 4, 3) := by decide +kernel
theorem dX12_isDoor_25 : decode cX12_isDoor 25 = .ok (.iconst 0, 1) := by decide +kernel
theorem dX12_isDoor_26 : decode cX12_isDoor 26 = .ok (.ireturn, 1) := by decide +kernel
theorem dX12_dread_0 : decode cX12_dread 0 = .ok (.aload_n 0, 1) := by decide +kernel
theorem dX12_dread_1 : decode cX12_dread 1 = .ok (.getfield 7, 3) := by decide +kernel
theorem dX12_dread_4 : decode cX12_dread 4 = .ok (.iconst 0, 1) := by decide +kernel
theorem dX12_dread_5 : decode cX12_dread 5 = .ok (.bipush 16, 2) := by decide +kernel
theorem dX12_dread_7 : decode cX12_dread 7 = .ok (.iload_n 1, 1) := by decide +kernel
theorem dX12_dread_8 : decode cX12_dread 8 = .ok (.imul, 1) := by decide +kernel
theorem dX12_dread_9 : decode cX12_dread 9 = .ok (.iadd, 1) := by decide +kernel
theorem dX12_dread_10 : decode cX12_dread 10 = .ok (.iload_n 2, 1) := by decide +kernel
theorem dX12_dread_11 : decode cX12_dread 11 = .ok (.iadd, 1) := by decide +kernel
theorem dX12_dread_12 : decode cX12_dread 12 = .ok (.iaload, 1) := by decide +kernel
theorem dX12_dread_13 : decode cX12_dread 13 = .ok (.ireturn, 1) := by decide +kernel
theorem dX12_greatest_0 : decode cX12_greatest 0 = .ok (.iconst 0, 1) := by decide +kernel
theorem dX12_greatest_1 : decode cX12_greatest 1 = .ok (.istore_n 2, 1) := by decide +kernel
theorem dX12_greatest_2 : decode cX12_greatest 2 = .ok (.iconst 0, 1) := by decide +kernel
theorem dX12_greatest_3 : decode cX12_greatest 3 = .ok (.istore_n 3, 1) := by decide +kernel
theorem dX12_greatest_4 : decode cX12_greatest 4 = .ok (.iload_n 3, 1) := by decide +kernel
theorem dX12_greatest_5 : decode cX12_greatest 5 = .ok (.bipush 16, 2) := by decide +kernel
theorem dX12_greatest_7 : decode cX12_greatest 7 = .ok (.if_icmp .ge 20, 3) := by decide +kernel
theorem dX12_greatest_10 : decode cX12_greatest 10 = .ok (.iload_n 2, 1) := by decide +kernel
theorem dX12_greatest_11 : decode cX12_greatest 11 = .ok (.aload_n 0, 1) := by decide +kernel
theorem dX12_greatest_12 : decode cX12_greatest 12 = .ok (.iload_n 1, 1) := by decide +kernel
theorem dX12_greatest_13 : decode cX12_greatest 13 = .ok (.iload_n 3, 1) := by decide +kernel
theorem dX12_greatest_14 : decode cX12_greatest 14 = .ok (.invokevirtual 132, 3) := by decide +kernel
theorem dX12_greatest_17 : decode cX12_greatest 17 = .ok (.invokestatic 114, 3) := by decide +kernel
theorem dX12_greatest_20 : decode cX12_greatest 20 = .ok (.istore_n 2, 1) := by decide +kernel
theorem dX12_greatest_21 : decode cX12_greatest 21 = .ok (.iinc 3 1, 3) := by decide +kernel
theorem dX12_greatest_24 : decode cX12_greatest 24 = .ok (.goto (-20), 3) := by decide +kernel
theorem dX12_greatest_27 : decode cX12_greatest 27 = .ok (.iload_n 2, 1) := by decide +kernel
theorem dX12_greatest_28 : decode cX12_greatest 28 = .ok (.ireturn, 1) := by decide +kernel
theorem dX12_fearOf_0 : decode cX12_fearOf 0 = .ok (.aload_n 0, 1) := by decide +kernel
theorem dX12_fearOf_1 : decode cX12_fearOf 1 = .ok (.iload_n 1, 1) := by decide +kernel
theorem dX12_fearOf_2 : decode cX12_fearOf 2 = .ok (.invokevirtual 135, 3) := by decide +kernel
theorem dX12_fearOf_5 : decode cX12_fearOf 5 = .ok (.istore_n 2, 1) := by decide +kernel
theorem dX12_fearOf_6 : decode cX12_fearOf 6 = .ok (.iconst (-1), 1) := by decide +kernel
theorem dX12_fearOf_7 : decode cX12_fearOf 7 = .ok (.istore_n 3, 1) := by decide +kernel
theorem dX12_fearOf_8 : decode cX12_fearOf 8 = .ok (.iconst 0, 1) := by decide +kernel
theorem dX12_fearOf_9 : decode cX12_fearOf 9 = .ok (.istore 4, 2) := by decide +kernel
theorem dX12_fearOf_11 : decode cX12_fearOf 11 = .ok (.iconst 0, 1) := by decide +kernel
theorem dX12_fearOf_12 : decode cX12_fearOf 12 = .ok (.istore 5, 2) := by decide +kernel
theorem dX12_fearOf_14 : decode cX12_fearOf 14 = .ok (.iload 5, 2) := by decide +kernel
theorem dX12_fearOf_16 : decode cX12_fearOf 16 = .ok (.bipush 16, 2) := by decide +kernel
theorem dX12_fearOf_18 : decode cX12_fearOf 18 = .ok (.if_icmp .ge 32, 3) := by decide +kernel
theorem dX12_fearOf_21 : decode cX12_fearOf 21 = .ok (.aload_n 0, 1) := by decide +kernel
theorem dX12_fearOf_22 : decode cX12_fearOf 22 = .ok (.iload_n 1, 1) := by decide +kernel
theorem dX12_fearOf_23 : decode cX12_fearOf 23 = .ok (.iload 5, 2) := by decide +kernel
theorem dX12_fearOf_25 : decode cX12_fearOf 25 = .ok (.invokevirtual 132, 3) := by decide +kernel
theorem dX12_fearOf_28 : decode cX12_fearOf 28 = .ok (.iload_n 2, 1) := by decide +kernel
theorem dX12_fearOf_29 : decode cX12_fearOf 29 = .ok (.if_icmp .eq 6, 3) := by decide +kernel
theorem dX12_fearOf_32 : decode cX12_fearOf 32 = .ok (.goto 12, 3) := by decide +kernel
theorem dX12_fearOf_35 : decode cX12_fearOf 35 = .ok (.iload 5, 2) := by decide +kernel
theorem dX12_fearOf_37 : decode cX12_fearOf 37 = .ok (.istore_n 3, 1) := by decide +kernel
theorem dX12_fearOf_38 : decode cX12_fearOf 38 = .ok (.iload 4, 2) := by decide +kernel
theorem dX12_fearOf_40 : decode cX12_fearOf 40 = .ok (.iconst 1, 1) := by decide +kernel
theorem dX12_fearOf_41 : decode cX12_fearOf 41 = .ok (.iadd, 1) := by decide +kernel
theorem dX12_fearOf_42 : decode cX12_fearOf 42 = .ok (.istore 4, 2) := by decide +kernel
theorem dX12_fearOf_44 : decode cX12_fearOf 44 = .ok (.iinc 5 1, 3) := by decide +kernel
theorem dX12_fearOf_47 : decode cX12_fearOf 47 = .ok (.goto (-33), 3) := by decide +kernel
theorem dX12_fearOf_50 : decode cX12_fearOf 50 = .ok (.iload_n 2, 1) := by decide +kernel
theorem dX12_fearOf_51 : decode cX12_fearOf 51 = .ok (.ifCond .le 13, 3) := by decide +kernel
theorem dX12_fearOf_54 : decode cX12_fearOf 54 = .ok (.iload 4, 2) := by decide +kernel
theorem dX12_fearOf_56 : decode cX12_fearOf 56 = .ok (.iconst 1, 1) := by decide +kernel
theorem dX12_fearOf_57 : decode cX12_fearOf 57 = .ok (.if_icmp .ne 7, 3) := by decide +kernel
theorem dX12_fearOf_60 : decode cX12_fearOf 60 = .ok (.iload_n 3, 1) := by decide +kernel
theorem dX12_fearOf_61 : decode cX12_fearOf 61 = .ok (.goto 4, 3) := by decide +kernel
theorem dX12_fearOf_64 : decode cX12_fearOf 64 = .ok (.iconst (-1), 1) := by decide +kernel
theorem dX12_fearOf_65 : decode cX12_fearOf 65 = .ok (.ireturn, 1) := by decide +kernel
theorem dX12_unlocks_0 : decode cX12_unlocks 0 = .ok (.aload_n 0, 1) := by decide +kernel
theorem dX12_unlocks_1 : decode cX12_unlocks 1 = .ok (.iload_n 1, 1) := by decide +kernel
theorem dX12_unlocks_2 : decode cX12_unlocks 2 = .ok (.invokevirtual 139, 3) := by decide +kernel
theorem dX12_unlocks_5 : decode cX12_unlocks 5 = .ok (.aload_n 0, 1) := by decide +kernel
theorem dX12_unlocks_6 : decode cX12_unlocks 6 = .ok (.getfield 25, 3) := by decide +kernel
theorem dX12_unlocks_9 : decode cX12_unlocks 9 = .ok (.iload_n 2, 1) := by decide +kernel
theorem dX12_unlocks_10 : decode cX12_unlocks 10 = .ok (.iaload, 1) := by decide +kernel
theorem dX12_unlocks_11 : decode cX12_unlocks 11 = .ok (.if_icmp .ne 27, 3) := by decide +kernel
theorem dX12_unlocks_14 : decode cX12_unlocks 14 = .ok (.aload_n 0, 1) := by decide +kernel
theorem dX12_unlocks_15 : decode cX12_unlocks 15 = .ok (.iload_n 1, 1) := by decide +kernel
theorem dX12_unlocks_16 : decode cX12_unlocks 16 = .ok (.aload_n 0, 1) := by decide +kernel
theorem dX12_unlocks_17 : decode cX12_unlocks 17 = .ok (.getfield 25, 3) := by decide +kernel
theorem dX12_unlocks_20 : decode cX12_unlocks 20 = .ok (.iload_n 2, 1) := by decide +kernel
theorem dX12_unlocks_21 : decode cX12_unlocks 21 = .ok (.iaload, 1) := by decide +kernel
theorem dX12_unlocks_22 : decode cX12_unlocks 22 = .ok (.invokevirtual 132, 3) := by decide +kernel
theorem dX12_unlocks_25 : decode cX12_unlocks 25 = .ok (.aload_n 0, 1) := by decide +kernel
theorem dX12_unlocks_26 : decode cX12_unlocks 26 = .ok (.getfield 28, 3) := by decide +kernel
theorem dX12_unlocks_29 : decode cX12_unlocks 29 = .ok (.iload_n 2, 1) := by decide +kernel
theorem dX12_unlocks_30 : decode cX12_unlocks 30 = .ok (.iaload, 1) := by decide +kernel
theorem dX12_unlocks_31 : decode cX12_unlocks 31 = .ok (.if_icmp .lt 7, 3) := by decide +kernel
theorem dX12_unlocks_34 : decode cX12_unlocks 34 = .ok (.iconst 1, 1) := by decide +kernel
theorem dX12_unlocks_35 : decode cX12_unlocks 35 = .ok (.goto 4, 3) := by decide +kernel
theorem dX12_unlocks_38 : decode cX12_unlocks 38 = .ok (.iconst 0, 1) := by decide +kernel
theorem dX12_unlocks_39 : decode cX12_unlocks 39 = .ok (.ireturn, 1) := by decide +kernel
theorem dX12_doorsOf_0 : decode cX12_doorsOf 0 = .ok (.iconst 0, 1) := by decide +kernel
theorem dX12_doorsOf_1 : decode cX12_doorsOf 1 = .ok (.istore_n 2, 1) := by decide +kernel
theorem dX12_doorsOf_2 : decode cX12_doorsOf 2 = .ok (.iconst 0, 1) := by decide +kernel
theorem dX12_doorsOf_3 : decode cX12_doorsOf 3 = .ok (.istore_n 3, 1) := by decide +kernel
theorem dX12_doorsOf_4 : decode cX12_doorsOf 4 = .ok (.iload_n 3, 1) := by decide +kernel
theorem dX12_doorsOf_5 : decode cX12_doorsOf 5 = .ok (.bipush 16, 2) := by decide +kernel
theorem dX12_doorsOf_7 : decode cX12_doorsOf 7 = .ok (.if_icmp .ge 32, 3) := by decide +kernel
theorem dX12_doorsOf_10 : decode cX12_doorsOf 10 = .ok (.aload_n 0, 1) := by decide +kernel
theorem dX12_doorsOf_11 : decode cX12_doorsOf 11 = .ok (.iload_n 3, 1) := by decide +kernel
theorem dX12_doorsOf_12 : decode cX12_doorsOf 12 = .ok (.invokevirtual 142, 3) := by decide +kernel
theorem dX12_doorsOf_15 : decode cX12_doorsOf 15 = .ok (.ifCond .eq 18, 3) := by decide +kernel
theorem dX12_doorsOf_18 : decode cX12_doorsOf 18 = .ok (.aload_n 0, 1) := by decide +kernel
theorem dX12_doorsOf_19 : decode cX12_doorsOf 19 = .ok (.iload_n 1, 1) := by decide +kernel
theorem dX12_doorsOf_20 : decode cX12_doorsOf 20 = .ok (.iload_n 3, 1) := by decide +kernel
theorem dX12_doorsOf_21 : decode cX12_doorsOf 21 = .ok (.invokevirtual 146, 3) := by decide +kernel
theorem dX12_doorsOf_24 : decode cX12_doorsOf 24 = .ok (.ifCond .eq 9, 3) := by decide +kernel
theorem dX12_doorsOf_27 : decode cX12_doorsOf 27 = .ok (.iload_n 2, 1) := by decide +kernel
theorem dX12_doorsOf_28 : decode cX12_doorsOf 28 = .ok (.iconst 1, 1) := by decide +kernel
theorem dX12_doorsOf_29 : decode cX12_doorsOf 29 = .ok (.iload_n 3, 1) := by decide +kernel
theorem dX12_doorsOf_30 : decode cX12_doorsOf 30 = .ok (.ishl, 1) := by decide +kernel
theorem dX12_doorsOf_31 : decode cX12_doorsOf 31 = .ok (.ior, 1) := by decide +kernel
theorem dX12_doorsOf_32 : decode cX12_doorsOf 32 = .ok (.istore_n 2, 1) := by decide +kernel
theorem dX12_doorsOf_33 : decode cX12_doorsOf 33 = .ok (.iinc 3 1, 3) := by decide +kernel
theorem dX12_doorsOf_36 : decode cX12_doorsOf 36 = .ok (.goto (-32), 3) := by decide +kernel
theorem dX12_doorsOf_39 : decode cX12_doorsOf 39 = .ok (.iload_n 2, 1) := by decide +kernel
theorem dX12_doorsOf_40 : decode cX12_doorsOf 40 = .ok (.ireturn, 1) := by decide +kernel
theorem dX12_whoUnlocks_0 : decode cX12_whoUnlocks 0 = .ok (.iconst 0, 1) := by decide +kernel
theorem dX12_whoUnlocks_1 : decode cX12_whoUnlocks 1 = .ok (.istore_n 2, 1) := by decide +kernel
theorem dX12_whoUnlocks_2 : decode cX12_whoUnlocks 2 = .ok (.iconst 0, 1) := by decide +kernel
theorem dX12_whoUnlocks_3 : decode cX12_whoUnlocks 3 = .ok (.istore_n 3, 1) := by decide +kernel
theorem dX12_whoUnlocks_4 : decode cX12_whoUnlocks 4 = .ok (.iload_n 3, 1) := by decide +kernel
theorem dX12_whoUnlocks_5 : decode cX12_whoUnlocks 5 = .ok (.bipush 12, 2) := by decide +kernel
theorem dX12_whoUnlocks_7 : decode cX12_whoUnlocks 7 = .ok (.if_icmp .ge 32, 3) := by decide +kernel
theorem dX12_whoUnlocks_10 : decode cX12_whoUnlocks 10 = .ok (.aload_n 0, 1) := by decide +kernel
theorem dX12_whoUnlocks_11 : decode cX12_whoUnlocks 11 = .ok (.iload_n 3, 1) := by decide +kernel
theorem dX12_whoUnlocks_12 : decode cX12_whoUnlocks 12 = .ok (.invokevirtual 149, 3) := by decide +kernel
theorem dX12_whoUnlocks_15 : decode cX12_whoUnlocks 15 = .ok (.ifCond .eq 18, 3) := by decide +kernel
theorem dX12_whoUnlocks_18 : decode cX12_whoUnlocks 18 = .ok (.aload_n 0, 1) := by decide +kernel
theorem dX12_whoUnlocks_19 : decode cX12_whoUnlocks 19 = .ok (.iload_n 3, 1) := by decide +kernel
theorem dX12_whoUnlocks_20 : decode cX12_whoUnlocks 20 = .ok (.iload_n 1, 1) := by decide +kernel
theorem dX12_whoUnlocks_21 : decode cX12_whoUnlocks 21 = .ok (.invokevirtual 146, 3) := by decide +kernel
theorem dX12_whoUnlocks_24 : decode cX12_whoUnlocks 24 = .ok (.ifCond .eq 9, 3) := by decide +kernel
theorem dX12_whoUnlocks_27 : decode cX12_whoUnlocks 27 = .ok (.iload_n 2, 1) := by decide +kernel
theorem dX12_whoUnlocks_28 : decode cX12_whoUnlocks 28 = .ok (.iconst 1, 1) := by decide +kernel
theorem dX12_whoUnlocks_29 : decode cX12_whoUnlocks 29 = .ok (.iload_n 3, 1) := by decide +kernel
theorem dX12_whoUnlocks_30 : decode cX12_whoUnlocks 30 = .ok (.ishl, 1) := by decide +kernel
end
section
theorem dX12_whoUnlocks_31 : decode cX12_whoUnlocks 31 = .ok (.ior, 1) := by decide +kernel
theorem dX12_whoUnlocks_32 : decode cX12_whoUnlocks 32 = .ok (.istore_n 2, 1) := by decide +kernel
theorem dX12_whoUnlocks_33 : decode cX12_whoUnlocks 33 = .ok (.iinc 3 1, 3) := by decide +kernel
theorem dX12_whoUnlocks_36 : decode cX12_whoUnlocks 36 = .ok (.goto (-32), 3) := by decide +kernel
theorem dX12_whoUnlocks_39 : decode cX12_whoUnlocks 39 = .ok (.iload_n 2, 1) := by decide +kernel
theorem dX12_whoUnlocks_40 : decode cX12_whoUnlocks 40 = .ok (.ireturn, 1) := by decide +kernel
theorem dX12_types_0 : decode cX12_types 0 = .ok (.iconst 3, 1) := by decide +kernel
theorem dX12_types_1 : decode cX12_types 1 = .ok (.istore_n 2, 1) := by decide +kernel
theorem dX12_types_2 : decode cX12_types 2 = .ok (.iload_n 2, 1) := by decide +kernel
theorem dX12_types_3 : decode cX12_types 3 = .ok (.ifCond .lt 35, 3) := by decide +kernel
theorem dX12_types_6 : decode cX12_types 6 = .ok (.aload_n 0, 1) := by decide +kernel
theorem dX12_types_7 : decode cX12_types 7 = .ok (.getfield 37, 3) := by decide +kernel
theorem dX12_types_10 : decode cX12_types 10 = .ok (.aload_n 0, 1) := by decide +kernel
theorem dX12_types_11 : decode cX12_types 11 = .ok (.getfield 152, 3) := by decide +kernel
theorem dX12_types_14 : decode cX12_types 14 = .ok (.iload_n 1, 1) := by decide +kernel
theorem dX12_types_15 : decode cX12_types 15 = .ok (.bipush 8, 2) := by decide +kernel
theorem dX12_types_17 : decode cX12_types 17 = .ok (.iload_n 2, 1) := by decide +kernel
theorem dX12_types_18 : decode cX12_types 18 = .ok (.imul, 1) := by decide +kernel
theorem dX12_types_19 : decode cX12_types 19 = .ok (.ishr, 1) := by decide +kernel
theorem dX12_types_20 : decode cX12_types 20 = .ok (.i2b, 1) := by decide +kernel
theorem dX12_types_21 : decode cX12_types 21 = .ok (.bastore, 1) := by decide +kernel
theorem dX12_types_22 : decode cX12_types 22 = .ok (.aload_n 0, 1) := by decide +kernel
theorem dX12_types_23 : decode cX12_types 23 = .ok (.aload_n 0, 1) := by decide +kernel
theorem dX12_types_24 : decode cX12_types 24 = .ok (.getfield 152, 3) := by decide +kernel
theorem dX12_types_27 : decode cX12_types 27 = .ok (.iconst 1, 1) := by decide +kernel
theorem dX12_types_28 : decode cX12_types 28 = .ok (.iadd, 1) := by decide +kernel
theorem dX12_types_29 : decode cX12_types 29 = .ok (.putfield 152, 3) := by decide +kernel
theorem dX12_types_32 : decode cX12_types 32 = .ok (.iinc 2 (-1), 3) := by decide +kernel
theorem dX12_types_35 : decode cX12_types 35 = .ok (.goto (-33), 3) := by decide +kernel
theorem dX12_types_38 : decode cX12_types 38 = .ok (.return_, 1) := by decide +kernel
theorem dX12_feed_0 : decode cX12_feed 0 = .ok (.aload_n 0, 1) := by decide +kernel
theorem dX12_feed_1 : decode cX12_feed 1 = .ok (.getfield 152, 3) := by decide +kernel
theorem dX12_feed_4 : decode cX12_feed 4 = .ok (.bipush 20, 2) := by decide +kernel
theorem dX12_feed_6 : decode cX12_feed 6 = .ok (.iadd, 1) := by decide +kernel
theorem dX12_feed_7 : decode cX12_feed 7 = .ok (.sipush 260, 3) := by decide +kernel
theorem dX12_feed_10 : decode cX12_feed 10 = .ok (.if_icmp .le 5, 3) := by decide +kernel
theorem dX12_feed_13 : decode cX12_feed 13 = .ok (.iconst (-1), 1) := by decide +kernel
theorem dX12_feed_14 : decode cX12_feed 14 = .ok (.ireturn, 1) := by decide +kernel
theorem dX12_feed_15 : decode cX12_feed 15 = .ok (.aload_n 0, 1) := by decide +kernel
theorem dX12_feed_16 : decode cX12_feed 16 = .ok (.iload_n 1, 1) := by decide +kernel
theorem dX12_feed_17 : decode cX12_feed 17 = .ok (.invokevirtual 155, 3) := by decide +kernel
theorem dX12_feed_20 : decode cX12_feed 20 = .ok (.aload_n 0, 1) := by decide +kernel
theorem dX12_feed_21 : decode cX12_feed 21 = .ok (.iload_n 2, 1) := by decide +kernel
theorem dX12_feed_22 : decode cX12_feed 22 = .ok (.invokevirtual 155, 3) := by decide +kernel
theorem dX12_feed_25 : decode cX12_feed 25 = .ok (.aload_n 0, 1) := by decide +kernel
theorem dX12_feed_26 : decode cX12_feed 26 = .ok (.iload_n 3, 1) := by decide +kernel
theorem dX12_feed_27 : decode cX12_feed 27 = .ok (.invokevirtual 155, 3) := by decide +kernel
theorem dX12_feed_30 : decode cX12_feed 30 = .ok (.aload_n 0, 1) := by decide +kernel
theorem dX12_feed_31 : decode cX12_feed 31 = .ok (.iload 4, 2) := by decide +kernel
theorem dX12_feed_33 : decode cX12_feed 33 = .ok (.invokevirtual 155, 3) := by decide +kernel
theorem dX12_feed_36 : decode cX12_feed 36 = .ok (.aload_n 0, 1) := by decide +kernel
theorem dX12_feed_37 : decode cX12_feed 37 = .ok (.iload 5, 2) := by decide +kernel
theorem dX12_feed_39 : decode cX12_feed 39 = .ok (.invokevirtual 155, 3) := by decide +kernel
theorem dX12_feed_42 : decode cX12_feed 42 = .ok (.aload_n 0, 1) := by decide +kernel
theorem dX12_feed_43 : decode cX12_feed 43 = .ok (.getfield 152, 3) := by decide +kernel
theorem dX12_feed_46 : decode cX12_feed 46 = .ok (.ireturn, 1) := by decide +kernel
theorem dX12_octet_0 : decode cX12_octet 0 = .ok (.aload_n 0, 1) := by decide +kernel
theorem dX12_octet_1 : decode cX12_octet 1 = .ok (.getfield 37, 3) := by decide +kernel
theorem dX12_octet_4 : decode cX12_octet 4 = .ok (.iload_n 1, 1) := by decide +kernel
theorem dX12_octet_5 : decode cX12_octet 5 = .ok (.baload, 1) := by decide +kernel
theorem dX12_octet_6 : decode cX12_octet 6 = .ok (.sipush 255, 3) := by decide +kernel
theorem dX12_octet_9 : decode cX12_octet 9 = .ok (.iand, 1) := by decide +kernel
theorem dX12_octet_10 : decode cX12_octet 10 = .ok (.ireturn, 1) := by decide +kernel
theorem dX12_law_0 : decode cX12_law 0 = .ok (.iload_n 1, 1) := by decide +kernel
theorem dX12_law_1 : decode cX12_law 1 = .ok (.iconst 1, 1) := by decide +kernel
theorem dX12_law_2 : decode cX12_law 2 = .ok (.sipush 240, 3) := by decide +kernel
theorem dX12_law_5 : decode cX12_law 5 = .ok (.invokestatic 117, 3) := by decide +kernel
theorem dX12_law_8 : decode cX12_law 8 = .ok (.ifCond .eq 11, 3) := by decide +kernel
theorem dX12_law_11 : decode cX12_law 11 = .ok (.iload_n 1, 1) := by decide +kernel
theorem dX12_law_12 : decode cX12_law 12 = .ok (.aload_n 0, 1) := by decide +kernel
theorem dX12_law_13 : decode cX12_law 13 = .ok (.getfield 152, 3) := by decide +kernel
theorem dX12_law_16 : decode cX12_law 16 = .ok (.if_icmp .le 5, 3) := by decide +kernel
theorem dX12_law_19 : decode cX12_law 19 = .ok (.iconst (-1), 1) := by decide +kernel
theorem dX12_law_20 : decode cX12_law 20 = .ok (.ireturn, 1) := by decide +kernel
theorem dX12_law_21 : decode cX12_law 21 = .ok (.aload_n 0, 1) := by decide +kernel
theorem dX12_law_22 : decode cX12_law 22 = .ok (.iload_n 1, 1) := by decide +kernel
theorem dX12_law_23 : decode cX12_law 23 = .ok (.invokevirtual 242, 3) := by decide +kernel
theorem dX12_law_26 : decode cX12_law 26 = .ok (.aload_n 0, 1) := by decide +kernel
theorem dX12_law_27 : decode cX12_law 27 = .ok (.invokevirtual 245, 3) := by decide +kernel
theorem dX12_law_30 : decode cX12_law 30 = .ok (.istore_n 2, 1) := by decide +kernel
theorem dX12_law_31 : decode cX12_law 31 = .ok (.iload_n 2, 1) := by decide +kernel
theorem dX12_law_32 : decode cX12_law 32 = .ok (.ifCond .eq 39, 3) := by decide +kernel
theorem dX12_law_35 : decode cX12_law 35 = .ok (.aload_n 0, 1) := by decide +kernel
theorem dX12_law_36 : decode cX12_law 36 = .ok (.getfield 159, 3) := by decide +kernel
theorem dX12_law_39 : decode cX12_law 39 = .ok (.aload_n 0, 1) := by decide +kernel
theorem dX12_law_40 : decode cX12_law 40 = .ok (.getfield 162, 3) := by decide +kernel
theorem dX12_law_43 : decode cX12_law 43 = .ok (.if_icmp .ge 28, 3) := by decide +kernel
theorem dX12_law_46 : decode cX12_law 46 = .ok (.aload_n 0, 1) := by decide +kernel
theorem dX12_law_47 : decode cX12_law 47 = .ok (.bipush 59, 2) := by decide +kernel
theorem dX12_law_49 : decode cX12_law 49 = .ok (.invokevirtual 248, 3) := by decide +kernel
theorem dX12_law_52 : decode cX12_law 52 = .ok (.ifCond .eq 14, 3) := by decide +kernel
theorem dX12_law_55 : decode cX12_law 55 = .ok (.aload_n 0, 1) := by decide +kernel
theorem dX12_law_56 : decode cX12_law 56 = .ok (.invokevirtual 245, 3) := by decide +kernel
theorem dX12_law_59 : decode cX12_law 59 = .ok (.ifCond .eq 7, 3) := by decide +kernel
theorem dX12_law_62 : decode cX12_law 62 = .ok (.iconst 1, 1) := by decide +kernel
theorem dX12_law_63 : decode cX12_law 63 = .ok (.goto 4, 3) := by decide +kernel
theorem dX12_law_66 : decode cX12_law 66 = .ok (.iconst 0, 1) := by decide +kernel
theorem dX12_law_67 : decode cX12_law 67 = .ok (.istore_n 2, 1) := by decide +kernel
theorem dX12_law_68 : decode cX12_law 68 = .ok (.goto (-37), 3) := by decide +kernel
theorem dX12_law_71 : decode cX12_law 71 = .ok (.aload_n 0, 1) := by decide +kernel
theorem dX12_law_72 : decode cX12_law 72 = .ok (.iconst 0, 1) := by decide +kernel
theorem dX12_law_73 : decode cX12_law 73 = .ok (.putfield 152, 3) := by decide +kernel
theorem dX12_law_76 : decode cX12_law 76 = .ok (.iload_n 2, 1) := by decide +kernel
theorem dX12_law_77 : decode cX12_law 77 = .ok (.ifCond .ne 8, 3) := by decide +kernel
theorem dX12_law_80 : decode cX12_law 80 = .ok (.aload_n 0, 1) := by decide +kernel
theorem dX12_law_81 : decode cX12_law 81 = .ok (.getfield 169, 3) := by decide +kernel
theorem dX12_law_84 : decode cX12_law 84 = .ok (.ireturn, 1) := by decide +kernel
theorem dX12_law_85 : decode cX12_law 85 = .ok (.aload_n 0, 1) := by decide +kernel
theorem dX12_law_86 : decode cX12_law 86 = .ok (.aload_n 0, 1) := by decide +kernel
theorem dX12_law_87 : decode cX12_law 87 = .ok (.getfield 236, 3) := by decide +kernel
theorem dX12_law_90 : decode cX12_law 90 = .ok (.putfield 251, 3) := by decide +kernel
theorem dX12_law_93 : decode cX12_law 93 = .ok (.iconst 0, 1) := by decide +kernel
theorem dX12_law_94 : decode cX12_law 94 = .ok (.istore_n 3, 1) := by decide +kernel
theorem dX12_law_95 : decode cX12_law 95 = .ok (.iload_n 3, 1) := by decide +kernel
theorem dX12_law_96 : decode cX12_law 96 = .ok (.aload_n 0, 1) := by decide +kernel
theorem dX12_law_97 : decode cX12_law 97 = .ok (.getfield 182, 3) := by decide +kernel
theorem dX12_law_100 : decode cX12_law 100 = .ok (.if_icmp .ge 21, 3) := by decide +kernel
theorem dX12_law_103 : decode cX12_law 103 = .ok (.aload_n 0, 1) := by decide +kernel
theorem dX12_law_104 : decode cX12_law 104 = .ok (.getfield 59, 3) := by decide +kernel
theorem dX12_law_107 : decode cX12_law 107 = .ok (.iload_n 3, 1) := by decide +kernel
theorem dX12_law_108 : decode cX12_law 108 = .ok (.aload_n 0, 1) := by decide +kernel
theorem dX12_law_109 : decode cX12_law 109 = .ok (.getfield 41, 3) := by decide +kernel
theorem dX12_law_112 : decode cX12_law 112 = .ok (.iload_n 3, 1) := by decide +kernel
theorem dX12_law_113 : decode cX12_law 113 = .ok (.iaload, 1) := by decide +kernel
theorem dX12_law_114 : decode cX12_law 114 = .ok (.iastore, 1) := by decide +kernel
theorem dX12_law_115 : decode cX12_law 115 = .ok (.iinc 3 1, 3) := by decide +kernel
theorem dX12_law_118 : decode cX12_law 118 = .ok (.goto (-23), 3) := by decide +kernel
theorem dX12_law_121 : decode cX12_law 121 = .ok (.iconst 0, 1) := by decide +kernel
theorem dX12_law_122 : decode cX12_law 122 = .ok (.istore_n 3, 1) := by decide +kernel
theorem dX12_law_123 : decode cX12_law 123 = .ok (.iload_n 3, 1) := by decide +kernel
theorem dX12_law_124 : decode cX12_law 124 = .ok (.aload_n 0, 1) := by decide +kernel
theorem dX12_law_125 : decode cX12_law 125 = .ok (.getfield 236, 3) := by decide +kernel
theorem dX12_law_128 : decode cX12_law 128 = .ok (.if_icmp .ge 57, 3) := by decide +kernel
theorem dX12_law_131 : decode cX12_law 131 = .ok (.aload_n 0, 1) := by decide +kernel
theorem dX12_law_132 : decode cX12_law 132 = .ok (.getfield 62, 3) := by decide +kernel
theorem dX12_law_135 : decode cX12_law 135 = .ok (.iload_n 3, 1) := by decide +kernel
theorem dX12_law_136 : decode cX12_law 136 = .ok (.aload_n 0, 1) := by decide +kernel
theorem dX12_law_137 : decode cX12_law 137 = .ok (.getfield 47, 3) := by decide +kernel
theorem dX12_law_140 : decode cX12_law 140 = .ok (.iload_n 3, 1) := by decide +kernel
theorem dX12_law_141 : decode cX12_law 141 = .ok (.iaload, 1) := by decide +kernel
theorem dX12_law_142 : decode cX12_law 142 = .ok (.iastore, 1) := by decide +kernel
theorem dX12_law_143 : decode cX12_law 143 = .ok (.aload_n 0, 1) := by decide +kernel
theorem dX12_law_144 : decode cX12_law 144 = .ok (.getfield 65, 3) := by decide +kernel
theorem dX12_law_147 : decode cX12_law 147 = .ok (.iload_n 3, 1) := by decide +kernel
theorem dX12_law_148 : decode cX12_law 148 = .ok (.aload_n 0, 1) := by decide +kernel
theorem dX12_law_149 : decode cX12_law 149 = .ok (.getfield 50, 3) := by decide +kernel
theorem dX12_law_152 : decode cX12_law 152 = .ok (.iload_n 3, 1) := by decide +kernel
theorem dX12_law_153 : decode cX12_law 153 = .ok (.iaload, 1) := by decide +kernel
theorem dX12_law_154 : decode cX12_law 154 = .ok (.iastore, 1) := by decide +kernel
theorem dX12_law_155 : decode cX12_law 155 = .ok (.aload_n 0, 1) := by decide +kernel
theorem dX12_law_156 : decode cX12_law 156 = .ok (.getfield 68, 3) := by decide +kernel
theorem dX12_law_159 : decode cX12_law 159 = .ok (.iload_n 3, 1) := by decide +kernel
theorem dX12_law_160 : decode cX12_law 160 = .ok (.aload_n 0, 1) := by decide +kernel
theorem dX12_law_161 : decode cX12_law 161 = .ok (.getfield 53, 3) := by decide +kernel
theorem dX12_law_164 : decode cX12_law 164 = .ok (.iload_n 3, 1) := by decide +kernel
theorem dX12_law_165 : decode cX12_law 165 = .ok (.iaload, 1) := by decide +kernel
theorem dX12_law_166 : decode cX12_law 166 = .ok (.iastore, 1) := by decide +kernel
theorem dX12_law_167 : decode cX12_law 167 = .ok (.aload_n 0, 1) := by decide +kernel
theorem dX12_law_168 : decode cX12_law 168 = .ok (.getfield 71, 3) := by decide +kernel
theorem dX12_law_171 : decode cX12_law 171 = .ok (.iload_n 3, 1) := by decide +kernel
theorem dX12_law_172 : decode cX12_law 172 = .ok (.aload_n 0, 1) := by decide +kernel
theorem dX12_law_173 : decode cX12_law 173 = .ok (.getfield 56, 3) := by decide +kernel
theorem dX12_law_176 : decode cX12_law 176 = .ok (.iload_n 3, 1) := by decide +kernel
theorem dX12_law_177 : decode cX12_law 177 = .ok (.iaload, 1) := by decide +kernel
theorem dX12_law_178 : decode cX12_law 178 = .ok (.iastore, 1) := by decide +kernel
theorem dX12_law_179 : decode cX12_law 179 = .ok (.iinc 3 1, 3) := by decide +kernel
theorem dX12_law_182 : decode cX12_law 182 = .ok (.goto (-59), 3) := by decide +kernel
theorem dX12_law_185 : decode cX12_law 185 = .ok (.aload_n 0, 1) := by decide +kernel
theorem dX12_law_186 : decode cX12_law 186 = .ok (.getfield 236, 3) := by decide +kernel
theorem dX12_law_189 : decode cX12_law 189 = .ok (.ireturn, 1) := by decide +kernel
theorem dX12_dreads_0 : decode cX12_dreads 0 = .ok (.iload_n 1, 1) := by decide +kernel
theorem dX12_dreads_1 : decode cX12_dreads 1 = .ok (.iconst 0, 1) := by decide +kernel
theorem dX12_dreads_2 : decode cX12_dreads 2 = .ok (.bipush 11, 2) := by decide +kernel
theorem dX12_dreads_4 : decode cX12_dreads 4 = .ok (.invokestatic 117, 3) := by decide +kernel
theorem dX12_dreads_7 : decode cX12_dreads 7 = .ok (.ifCond .eq 21, 3) := by decide +kernel
theorem dX12_dreads_10 : decode cX12_dreads 10 = .ok (.iload_n 2, 1) := by decide +kernel
theorem dX12_dreads_11 : decode cX12_dreads 11 = .ok (.iconst 1, 1) := by decide +kernel
theorem dX12_dreads_12 : decode cX12_dreads 12 = .ok (.bipush 120, 2) := by decide +kernel
theorem dX12_dreads_14 : decode cX12_dreads 14 = .ok (.invokestatic 117, 3) := by decide +kernel
theorem dX12_dreads_17 : decode cX12_dreads 17 = .ok (.ifCond .eq 11, 3) := by decide +kernel
theorem dX12_dreads_20 : decode cX12_dreads 20 = .ok (.iload_n 2, 1) := by decide +kernel
theorem dX12_dreads_21 : decode cX12_dreads 21 = .ok (.aload_n 0, 1) := by decide +kernel
theorem dX12_dreads_22 : decode cX12_dreads 22 = .ok (.getfield 152, 3) := by decide +kernel
theorem dX12_dreads_25 : decode cX12_dreads 25 = .ok (.if_icmp .le 5, 3) := by decide +kernel
theorem dX12_dreads_28 : decode cX12_dreads 28 = .ok (.iconst (-1), 1) := by decide +kernel
theorem dX12_dreads_29 : decode cX12_dreads 29 = .ok (.ireturn, 1) := by decide +kernel
theorem dX12_dreads_30 : decode cX12_dreads 30 = .ok (.aload_n 0, 1) := by decide +kernel
theorem dX12_dreads_31 : decode cX12_dreads 31 = .ok (.iload_n 2, 1) := by decide +kernel
theorem dX12_dreads_32 : decode cX12_dreads 32 = .ok (.invokevirtual 242, 3) := by decide +kernel
theorem dX12_dreads_35 : decode cX12_dreads 35 = .ok (.aload_n 0, 1) := by decide +kernel
theorem dX12_dreads_36 : decode cX12_dreads 36 = .ok (.iconst 0, 1) := by decide +kernel
theorem dX12_dreads_37 : decode cX12_dreads 37 = .ok (.putfield 268, 3) := by decide +kernel
theorem dX12_dreads_40 : decode cX12_dreads 40 = .ok (.aload_n 0, 1) := by decide +kernel
theorem dX12_dreads_41 : decode cX12_dreads 41 = .ok (.getfield 7, 3) := by decide +kernel
theorem dX12_dreads_44 : decode cX12_dreads 44 = .ok (.aload_n 0, 1) := by decide +kernel
theorem dX12_dreads_45 : decode cX12_dreads 45 = .ok (.getfield 13, 3) := by decide +kernel
theorem dX12_dreads_48 : decode cX12_dreads 48 = .ok (.invokestatic 280, 3) := by decide +kernel
theorem dX12_dreads_51 : decode cX12_dreads 51 = .ok (.aload_n 0, 1) := by decide +kernel
theorem dX12_dreads_52 : decode cX12_dreads 52 = .ok (.iload_n 1, 1) := by decide +kernel
theorem dX12_dreads_53 : decode cX12_dreads 53 = .ok (.invokevirtual 284, 3) := by decide +kernel
theorem dX12_dreads_56 : decode cX12_dreads 56 = .ok (.istore_n 3, 1) := by decide +kernel
theorem dX12_dreads_57 : decode cX12_dreads 57 = .ok (.iload_n 3, 1) := by decide +kernel
theorem dX12_dreads_58 : decode cX12_dreads 58 = .ok (.ifCond .eq 40, 3) := by decide +kernel
theorem dX12_dreads_61 : decode cX12_dreads 61 = .ok (.aload_n 0, 1) := by decide +kernel
theorem dX12_dreads_62 : decode cX12_dreads 62 = .ok (.getfield 159, 3) := by decide +kernel
theorem dX12_dreads_65 : decode cX12_dreads 65 = .ok (.aload_n 0, 1) := by decide +kernel
theorem dX12_dreads_66 : decode cX12_dreads 66 = .ok (.getfield 162, 3) := by decide +kernel
theorem dX12_dreads_69 : decode cX12_dreads 69 = .ok (.if_icmp .ge 29, 3) := by decide +kernel
theorem dX12_dreads_72 : decode cX12_dreads 72 = .ok (.aload_n 0, 1) := by decide +kernel
theorem dX12_dreads_73 : decode cX12_dreads 73 = .ok (.bipush 59, 2) := by decide +kernel
theorem dX12_dreads_75 : decode cX12_dreads 75 = .ok (.invokevirtual 248, 3) := by decide +kernel
theorem dX12_dreads_78 : decode cX12_dreads 78 = .ok (.ifCond .eq 15, 3) := by decide +kernel
theorem dX12_dreads_81 : decode cX12_dreads 81 = .ok (.aload_n 0, 1) := by decide +kernel
theorem dX12_dreads_82 : decode cX12_dreads 82 = .ok (.iload_n 1, 1) := by decide +kernel
theorem dX12_dreads_83 : decode cX12_dreads 83 = .ok (.invokevirtual 284, 3) := by decide +kernel
theorem dX12_dreads_86 : decode cX12_dreads 86 = .ok (.ifCond .eq 7, 3) := by decide +kernel
theorem dX12_dreads_89 : decode cX12_dreads 89 = .ok (.iconst 1, 1) := by decide +kernel
theorem dX12_dreads_90 : decode cX12_dreads 90 = .ok (.goto 4, 3) := by decide +kernel
theorem dX12_dreads_93 : decode cX12_dreads 93 = .ok (.iconst 0, 1) := by decide +kernel
theorem dX12_dreads_94 : decode cX12_dreads 94 = .ok (.istore_n 3, 1) := by decide +kernel
theorem dX12_dreads_95 : decode cX12_dreads 95 = .ok (.goto (-38), 3) := by decide +kernel
theorem dX12_dreads_98 : decode cX12_dreads 98 = .ok (.aload_n 0, 1) := by decide +kernel
theorem dX12_dreads_99 : decode cX12_dreads 99 = .ok (.iconst 0, 1) := by decide +kernel
theorem dX12_dreads_100 : decode cX12_dreads 100 = .ok (.putfield 152, 3) := by decide +kernel
theorem dX12_dreads_103 : decode cX12_dreads 103 = .ok (.iload_n 3, 1) := by decide +kernel
theorem dX12_dreads_104 : decode cX12_dreads 104 = .ok (.ifCond .ne 19, 3) := by decide +kernel
theorem dX12_dreads_107 : decode cX12_dreads 107 = .ok (.aload_n 0, 1) := by decide +kernel
theorem dX12_dreads_108 : decode cX12_dreads 108 = .ok (.getfield 13, 3) := by decide +kernel
theorem dX12_dreads_111 : decode cX12_dreads 111 = .ok (.aload_n 0, 1) := by decide +kernel
theorem dX12_dreads_112 : decode cX12_dreads 112 = .ok (.getfield 7, 3) := by decide +kernel
theorem dX12_dreads_115 : decode cX12_dreads 115 = .ok (.invokestatic 280, 3) := by decide +kernel
theorem dX12_dreads_118 : decode cX12_dreads 118 = .ok (.aload_n 0, 1) := by decide +kernel
theorem dX12_dreads_119 : decode cX12_dreads 119 = .ok (.getfield 169, 3) := by decide +kernel
theorem dX12_dreads_122 : decode cX12_dreads 122 = .ok (.ireturn, 1) := by decide +kernel
theorem dX12_dreads_123 : decode cX12_dreads 123 = .ok (.aload_n 0, 1) := by decide +kernel
theorem dX12_dreads_124 : decode cX12_dreads 124 = .ok (.aload_n 0, 1) := by decide +kernel
theorem dX12_dreads_125 : decode cX12_dreads 125 = .ok (.getfield 121, 3) := by decide +kernel
theorem dX12_dreads_128 : decode cX12_dreads 128 = .ok (.iconst 1, 1) := by decide +kernel
theorem dX12_dreads_129 : decode cX12_dreads 129 = .ok (.iload_n 1, 1) := by decide +kernel
theorem dX12_dreads_130 : decode cX12_dreads 130 = .ok (.ishl, 1) := by decide +kernel
theorem dX12_dreads_131 : decode cX12_dreads 131 = .ok (.ior, 1) := by decide +kernel
theorem dX12_dreads_132 : decode cX12_dreads 132 = .ok (.putfield 121, 3) := by decide +kernel
theorem dX12_dreads_135 : decode cX12_dreads 135 = .ok (.aload_n 0, 1) := by decide +kernel
theorem dX12_dreads_136 : decode cX12_dreads 136 = .ok (.getfield 268, 3) := by decide +kernel
theorem dX12_dreads_139 : decode cX12_dreads 139 = .ok (.ireturn, 1) := by decide +kernel
theorem dX12_orders_0 : decode cX12_orders 0 = .ok (.iload_n 1, 1) := by decide +kernel
theorem dX12_orders_1 : decode cX12_orders 1 = .ok (.iconst 1, 1) := by decide +kernel
theorem dX12_orders_2 : decode cX12_orders 2 = .ok (.bipush 120, 2) := by decide +kernel
theorem dX12_orders_4 : decode cX12_orders 4 = .ok (.invokestatic 117, 3) := by decide +kernel
theorem dX12_orders_7 : decode cX12_orders 7 = .ok (.ifCond .eq 11, 3) := by decide +kernel
theorem dX12_orders_10 : decode cX12_orders 10 = .ok (.iload_n 1, 1) := by decide +kernel
theorem dX12_orders_11 : decode cX12_orders 11 = .ok (.aload_n 0, 1) := by decide +kernel
theorem dX12_orders_12 : decode cX12_orders 12 = .ok (.getfield 152, 3) := by decide +kernel
theorem dX12_orders_15 : decode cX12_orders 15 = .ok (.if_icmp .le 5, 3) := by decide +kernel
theorem dX12_orders_18 : decode cX12_orders 18 = .ok (.iconst (-1), 1) := by decide +kernel
theorem dX12_orders_19 : decode cX12_orders 19 = .ok (.ireturn, 1) := by decide +kernel
theorem dX12_orders_20 : decode cX12_orders 20 = .ok (.aload_n 0, 1) := by decide +kernel
theorem dX12_orders_21 : decode cX12_orders 21 = .ok (.iload_n 1, 1) := by decide +kernel
theorem dX12_orders_22 : decode cX12_orders 22 = .ok (.invokevirtual 242, 3) := by decide +kernel
theorem dX12_orders_25 : decode cX12_orders 25 = .ok (.aload_n 0, 1) := by decide +kernel
theorem dX12_orders_26 : decode cX12_orders 26 = .ok (.iconst 0, 1) := by decide +kernel
theorem dX12_orders_27 : decode cX12_orders 27 = .ok (.putfield 268, 3) := by decide +kernel
theorem dX12_orders_30 : decode cX12_orders 30 = .ok (.aload_n 0, 1) := by decide +kernel
theorem dX12_orders_31 : decode cX12_orders 31 = .ok (.invokevirtual 299, 3) := by decide +kernel
theorem dX12_orders_34 : decode cX12_orders 34 = .ok (.aload_n 0, 1) := by decide +kernel
theorem dX12_orders_35 : decode cX12_orders 35 = .ok (.invokevirtual 302, 3) := by decide +kernel
theorem dX12_orders_38 : decode cX12_orders 38 = .ok (.istore_n 2, 1) := by decide +kernel
theorem dX12_orders_39 : decode cX12_orders 39 = .ok (.iload_n 2, 1) := by decide +kernel
theorem dX12_orders_40 : decode cX12_orders 40 = .ok (.ifCond .eq 39, 3) := by decide +kernel
theorem dX12_orders_43 : decode cX12_orders 43 = .ok (.aload_n 0, 1) := by decide +kernel
theorem dX12_orders_44 : decode cX12_orders 44 = .ok (.getfield 159, 3) := by decide +kernel
theorem dX12_orders_47 : decode cX12_orders 47 = .ok (.aload_n 0, 1) := by decide +kernel
theorem dX12_orders_48 : decode cX12_orders 48 = .ok (.getfield 162, 3) := by decide +kernel
theorem dX12_orders_51 : decode cX12_orders 51 = .ok (.if_icmp .ge 28, 3) := by decide +kernel
theorem dX12_orders_54 : decode cX12_orders 54 = .ok (.aload_n 0, 1) := by decide +kernel
theorem dX12_orders_55 : decode cX12_orders 55 = .ok (.bipush 59, 2) := by decide +kernel
theorem dX12_orders_57 : decode cX12_orders 57 = .ok (.invokevirtual 248, 3) := by decide +kernel
theorem dX12_orders_60 : decode cX12_orders 60 = .ok (.ifCond .eq 14, 3) := by decide +kernel
theorem dX12_orders_63 : decode cX12_orders 63 = .ok (.aload_n 0, 1) := by decide +kernel
theorem dX12_orders_64 : decode cX12_orders 64 = .ok (.invokevirtual 302, 3) := by decide +kernel
theorem dX12_orders_67 : decode cX12_orders 67 = .ok (.ifCond .eq 7, 3) := by decide +kernel
theorem dX12_orders_70 : decode cX12_orders 70 = .ok (.iconst 1, 1) := by decide +kernel
theorem dX12_orders_71 : decode cX12_orders 71 = .ok (.goto 4, 3) := by decide +kernel
theorem dX12_orders_74 : decode cX12_orders 74 = .ok (.iconst 0, 1) := by decide +kernel
theorem dX12_orders_75 : decode cX12_orders 75 = .ok (.istore_n 2, 1) := by decide +kernel
theorem dX12_orders_76 : decode cX12_orders 76 = .ok (.goto (-37), 3) := by decide +kernel
theorem dX12_orders_79 : decode cX12_orders 79 = .ok (.aload_n 0, 1) := by decide +kernel
theorem dX12_orders_80 : decode cX12_orders 80 = .ok (.iconst 0, 1) := by decide +kernel
theorem dX12_orders_81 : decode cX12_orders 81 = .ok (.putfield 152, 3) := by decide +kernel
theorem dX12_orders_84 : decode cX12_orders 84 = .ok (.iload_n 2, 1) := by decide +kernel
theorem dX12_orders_85 : decode cX12_orders 85 = .ok (.ifCond .eq 8, 3) := by decide +kernel
theorem dX12_orders_88 : decode cX12_orders 88 = .ok (.aload_n 0, 1) := by decide +kernel
theorem dX12_orders_89 : decode cX12_orders 89 = .ok (.getfield 268, 3) := by decide +kernel
theorem dX12_orders_92 : decode cX12_orders 92 = .ok (.ireturn, 1) := by decide +kernel
theorem dX12_orders_93 : decode cX12_orders 93 = .ok (.aload_n 0, 1) := by decide +kernel
theorem dX12_orders_94 : decode cX12_orders 94 = .ok (.invokevirtual 305, 3) := by decide +kernel
theorem dX12_orders_97 : decode cX12_orders 97 = .ok (.aload_n 0, 1) := by decide +kernel
theorem dX12_orders_98 : decode cX12_orders 98 = .ok (.getfield 169, 3) := by decide +kernel
theorem dX12_orders_101 : decode cX12_orders 101 = .ok (.ireturn, 1) := by decide +kernel
theorem dX12_catches_0 : decode cX12_catches 0 = .ok (.iconst 0, 1) := by decide +kernel
theorem dX12_catches_1 : decode cX12_catches 1 = .ok (.istore_n 1, 1) := by decide +kernel
theorem dX12_catches_2 : decode cX12_catches 2 = .ok (.iload_n 1, 1) := by decide +kernel
theorem dX12_catches_3 : decode cX12_catches 3 = .ok (.bipush 12, 2) := by decide +kernel
theorem dX12_catches_5 : decode cX12_catches 5 = .ok (.if_icmp .ge 32, 3) := by decide +kernel
theorem dX12_catches_8 : decode cX12_catches 8 = .ok (.aload_n 0, 1) := by decide +kernel
theorem dX12_catches_9 : decode cX12_catches 9 = .ok (.getfield 80, 3) := by decide +kernel
theorem dX12_catches_12 : decode cX12_catches 12 = .ok (.iload_n 1, 1) := by decide +kernel
theorem dX12_catches_13 : decode cX12_catches 13 = .ok (.aload_n 0, 1) := by decide +kernel
theorem dX12_catches_14 : decode cX12_catches 14 = .ok (.iload_n 1, 1) := by decide +kernel
theorem dX12_catches_15 : decode cX12_catches 15 = .ok (.invokevirtual 149, 3) := by decide +kernel
theorem dX12_catches_18 : decode cX12_catches 18 = .ok (.ifCond .eq 11, 3) := by decide +kernel
theorem dX12_catches_21 : decode cX12_catches 21 = .ok (.aload_n 0, 1) := by decide +kernel
theorem dX12_catches_22 : decode cX12_catches 22 = .ok (.iload_n 1, 1) := by decide +kernel
theorem dX12_catches_23 : decode cX12_catches 23 = .ok (.invokevirtual 139, 3) := by decide +kernel
theorem dX12_catches_26 : decode cX12_catches 26 = .ok (.goto 4, 3) := by decide +kernel
theorem dX12_catches_29 : decode cX12_catches 29 = .ok (.iconst (-1), 1) := by decide +kernel
theorem dX12_catches_30 : decode cX12_catches 30 = .ok (.iastore, 1) := by decide +kernel
theorem dX12_catches_31 : decode cX12_catches 31 = .ok (.iinc 1 1, 3) := by decide +kernel
theorem dX12_catches_34 : decode cX12_catches 34 = .ok (.goto (-32), 3) := by decide +kernel
theorem dX12_catches_37 : decode cX12_catches 37 = .ok (.iconst 0, 1) := by decide +kernel
theorem dX12_catches_38 : decode cX12_catches 38 = .ok (.istore_n 1, 1) := by decide +kernel
theorem dX12_catches_39 : decode cX12_catches 39 = .ok (.iload_n 1, 1) := by decide +kernel
theorem dX12_catches_40 : decode cX12_catches 40 = .ok (.sipush 144, 3) := by decide +kernel
theorem dX12_catches_43 : decode cX12_catches 43 = .ok (.if_icmp .ge 46, 3) := by decide +kernel
theorem dX12_catches_46 : decode cX12_catches 46 = .ok (.aload_n 0, 1) := by decide +kernel
theorem dX12_catches_47 : decode cX12_catches 47 = .ok (.getfield 19, 3) := by decide +kernel
theorem dX12_catches_50 : decode cX12_catches 50 = .ok (.iload_n 1, 1) := by decide +kernel
theorem dX12_catches_51 : decode cX12_catches 51 = .ok (.bipush 12, 2) := by decide +kernel
theorem dX12_catches_53 : decode cX12_catches 53 = .ok (.idiv, 1) := by decide +kernel
theorem dX12_catches_54 : decode cX12_catches 54 = .ok (.iaload, 1) := by decide +kernel
theorem dX12_catches_55 : decode cX12_catches 55 = .ok (.iload_n 1, 1) := by decide +kernel
theorem dX12_catches_56 : decode cX12_catches 56 = .ok (.bipush 12, 2) := by decide +kernel
theorem dX12_catches_58 : decode cX12_catches 58 = .ok (.irem, 1) := by decide +kernel
theorem dX12_catches_59 : decode cX12_catches 59 = .ok (.invokestatic 125, 3) := by decide +kernel
theorem dX12_catches_62 : decode cX12_catches 62 = .ok (.ifCond .eq 21, 3) := by decide +kernel
theorem dX12_catches_65 : decode cX12_catches 65 = .ok (.aload_n 0, 1) := by decide +kernel
theorem dX12_catches_66 : decode cX12_catches 66 = .ok (.getfield 83, 3) := by decide +kernel
theorem dX12_catches_69 : decode cX12_catches 69 = .ok (.iload_n 1, 1) := by decide +kernel
theorem dX12_catches_70 : decode cX12_catches 70 = .ok (.aload_n 0, 1) := by decide +kernel
theorem dX12_catches_71 : decode cX12_catches 71 = .ok (.iload_n 1, 1) := by decide +kernel
theorem dX12_catches_72 : decode cX12_catches 72 = .ok (.bipush 12, 2) := by decide +kernel
theorem dX12_catches_74 : decode cX12_catches 74 = .ok (.idiv, 1) := by decide +kernel
theorem dX12_catches_75 : decode cX12_catches 75 = .ok (.iload_n 1, 1) := by decide +kernel
theorem dX12_catches_76 : decode cX12_catches 76 = .ok (.bipush 12, 2) := by decide +kernel
theorem dX12_catches_78 : decode cX12_catches 78 = .ok (.irem, 1) := by decide +kernel
theorem dX12_catches_79 : decode cX12_catches 79 = .ok (.invokevirtual 337, 3) := by decide +kernel
theorem dX12_catches_82 : decode cX12_catches 82 = .ok (.iastore, 1) := by decide +kernel
theorem dX12_catches_83 : decode cX12_catches 83 = .ok (.iinc 1 1, 3) := by decide +kernel
theorem dX12_catches_86 : decode cX12_catches 86 = .ok (.goto (-47), 3) := by decide +kernel
theorem dX12_catches_89 : decode cX12_catches 89 = .ok (.iconst 0, 1) := by decide +kernel
theorem dX12_catches_90 : decode cX12_catches 90 = .ok (.istore_n 1, 1) := by decide +kernel
theorem dX12_catches_91 : decode cX12_catches 91 = .ok (.iload_n 1, 1) := by decide +kernel
theorem dX12_catches_92 : decode cX12_catches 92 = .ok (.sipush 144, 3) := by decide +kernel
theorem dX12_catches_95 : decode cX12_catches 95 = .ok (.if_icmp .ge 86, 3) := by decide +kernel
theorem dX12_catches_98 : decode cX12_catches 98 = .ok (.iload_n 1, 1) := by decide +kernel
theorem dX12_catches_99 : decode cX12_catches 99 = .ok (.bipush 12, 2) := by decide +kernel
theorem dX12_catches_101 : decode cX12_catches 101 = .ok (.idiv, 1) := by decide +kernel
theorem dX12_catches_102 : decode cX12_catches 102 = .ok (.istore_n 2, 1) := by decide +kernel
theorem dX12_catches_103 : decode cX12_catches 103 = .ok (.iload_n 1, 1) := by decide +kernel
theorem dX12_catches_104 : decode cX12_catches 104 = .ok (.bipush 12, 2) := by decide +kernel
theorem dX12_catches_106 : decode cX12_catches 106 = .ok (.irem, 1) := by decide +kernel
theorem dX12_catches_107 : decode cX12_catches 107 = .ok (.istore_n 3, 1) := by decide +kernel
theorem dX12_catches_108 : decode cX12_catches 108 = .ok (.aload_n 0, 1) := by decide +kernel
theorem dX12_catches_109 : decode cX12_catches 109 = .ok (.getfield 19, 3) := by decide +kernel
theorem dX12_catches_112 : decode cX12_catches 112 = .ok (.iload_n 2, 1) := by decide +kernel
theorem dX12_catches_113 : decode cX12_catches 113 = .ok (.iaload, 1) := by decide +kernel
theorem dX12_catches_114 : decode cX12_catches 114 = .ok (.iload_n 3, 1) := by decide +kernel
theorem dX12_catches_115 : decode cX12_catches 115 = .ok (.invokestatic 125, 3) := by decide +kernel
theorem dX12_catches_118 : decode cX12_catches 118 = .ok (.ifCond .eq 57, 3) := by decide +kernel
theorem dX12_catches_121 : decode cX12_catches 121 = .ok (.aload_n 0, 1) := by decide +kernel
theorem dX12_catches_122 : decode cX12_catches 122 = .ok (.getfield 80, 3) := by decide +kernel
theorem dX12_catches_125 : decode cX12_catches 125 = .ok (.iload_n 3, 1) := by decide +kernel
theorem dX12_catches_126 : decode cX12_catches 126 = .ok (.iaload, 1) := by decide +kernel
theorem dX12_catches_127 : decode cX12_catches 127 = .ok (.iconst (-1), 1) := by decide +kernel
theorem dX12_catches_128 : decode cX12_catches 128 = .ok (.if_icmp .ne 6, 3) := by decide +kernel
theorem dX12_catches_131 : decode cX12_catches 131 = .ok (.goto 44, 3) := by decide +kernel
theorem dX12_catches_134 : decode cX12_catches 134 = .ok (.iconst 0, 1) := by decide +kernel
theorem dX12_catches_135 : decode cX12_catches 135 = .ok (.bipush 16, 2) := by decide +kernel
theorem dX12_catches_137 : decode cX12_catches 137 = .ok (.iload_n 2, 1) := by decide +kernel
theorem dX12_catches_138 : decode cX12_catches 138 = .ok (.imul, 1) := by decide +kernel
theorem dX12_catches_139 : decode cX12_catches 139 = .ok (.iadd, 1) := by decide +kernel
theorem dX12_catches_140 : decode cX12_catches 140 = .ok (.aload_n 0, 1) := by decide +kernel
theorem dX12_catches_141 : decode cX12_catches 141 = .ok (.getfield 80, 3) := by decide +kernel
theorem dX12_catches_144 : decode cX12_catches 144 = .ok (.iload_n 3, 1) := by decide +kernel
theorem dX12_catches_145 : decode cX12_catches 145 = .ok (.iaload, 1) := by decide +kernel
theorem dX12_catches_146 : decode cX12_catches 146 = .ok (.iadd, 1) := by decide +kernel
theorem dX12_catches_147 : decode cX12_catches 147 = .ok (.istore 4, 2) := by decide +kernel
theorem dX12_catches_149 : decode cX12_catches 149 = .ok (.aload_n 0, 1) := by decide +kernel
theorem dX12_catches_150 : decode cX12_catches 150 = .ok (.getfield 7, 3) := by decide +kernel
theorem dX12_catches_153 : decode cX12_catches 153 = .ok (.iload 4, 2) := by decide +kernel
theorem dX12_catches_155 : decode cX12_catches 155 = .ok (.bipush 99, 2) := by decide +kernel
theorem dX12_catches_157 : decode cX12_catches 157 = .ok (.aload_n 0, 1) := by decide +kernel
theorem dX12_catches_158 : decode cX12_catches 158 = .ok (.getfield 7, 3) := by decide +kernel
theorem dX12_catches_161 : decode cX12_catches 161 = .ok (.iload 4, 2) := by decide +kernel
theorem dX12_catches_163 : decode cX12_catches 163 = .ok (.iaload, 1) := by decide +kernel
theorem dX12_catches_164 : decode cX12_catches 164 = .ok (.aload_n 0, 1) := by decide +kernel
theorem dX12_catches_165 : decode cX12_catches 165 = .ok (.getfield 83, 3) := by decide +kernel
theorem dX12_catches_168 : decode cX12_catches 168 = .ok (.iload_n 1, 1) := by decide +kernel
theorem dX12_catches_169 : decode cX12_catches 169 = .ok (.iaload, 1) := by decide +kernel
theorem dX12_catches_170 : decode cX12_catches 170 = .ok (.iadd, 1) := by decide +kernel
theorem dX12_catches_171 : decode cX12_catches 171 = .ok (.invokestatic 110, 3) := by decide +kernel
theorem dX12_catches_174 : decode cX12_catches 174 = .ok (.iastore, 1) := by decide +kernel
theorem dX12_catches_175 : decode cX12_catches 175 = .ok (.iinc 1 1, 3) := by decide +kernel
theorem dX12_catches_178 : decode cX12_catches 178 = .ok (.goto (-87), 3) := by decide +kernel
theorem dX12_catches_181 : decode cX12_catches 181 = .ok (.return_, 1) := by decide +kernel
theorem dX12_nightGoes_0 : decode cX12_nightGoes 0 = .ok (.iconst 0, 1) := by decide +kernel
theorem dX12_nightGoes_1 : decode cX12_nightGoes 1 = .ok (.istore_n 1, 1) := by decide +kernel
theorem dX12_nightGoes_2 : decode cX12_nightGoes 2 = .ok (.iload_n 1, 1) := by decide +kernel
theorem dX12_nightGoes_3 : decode cX12_nightGoes 3 = .ok (.bipush 12, 2) := by decide +kernel
theorem dX12_nightGoes_5 : decode cX12_nightGoes 5 = .ok (.if_icmp .ge 22, 3) := by decide +kernel
theorem dX12_nightGoes_8 : decode cX12_nightGoes 8 = .ok (.aload_n 0, 1) := by decide +kernel
theorem dX12_nightGoes_9 : decode cX12_nightGoes 9 = .ok (.iload_n 1, 1) := by decide +kernel
theorem dX12_nightGoes_10 : decode cX12_nightGoes 10 = .ok (.invokevirtual 149, 3) := by decide +kernel
theorem dX12_nightGoes_13 : decode cX12_nightGoes 13 = .ok (.ifCond .eq 8, 3) := by decide +kernel
theorem dX12_nightGoes_16 : decode cX12_nightGoes 16 = .ok (.aload_n 0, 1) := by decide +kernel
theorem dX12_nightGoes_17 : decode cX12_nightGoes 17 = .ok (.iload_n 1, 1) := by decide +kernel
theorem dX12_nightGoes_18 : decode cX12_nightGoes 18 = .ok (.invokevirtual 340, 3) := by decide +kernel
theorem dX12_nightGoes_21 : decode cX12_nightGoes 21 = .ok (.iinc 1 1, 3) := by decide +kernel
theorem dX12_nightGoes_24 : decode cX12_nightGoes 24 = .ok (.goto (-22), 3) := by decide +kernel
theorem dX12_nightGoes_27 : decode cX12_nightGoes 27 = .ok (.aload_n 0, 1) := by decide +kernel
theorem dX12_nightGoes_28 : decode cX12_nightGoes 28 = .ok (.invokevirtual 343, 3) := by decide +kernel
theorem dX12_nightGoes_31 : decode cX12_nightGoes 31 = .ok (.aload_n 0, 1) := by decide +kernel
theorem dX12_nightGoes_32 : decode cX12_nightGoes 32 = .ok (.getfield 7, 3) := by decide +kernel
theorem dX12_nightGoes_35 : decode cX12_nightGoes 35 = .ok (.sipush 208, 3) := by decide +kernel
theorem dX12_nightGoes_38 : decode cX12_nightGoes 38 = .ok (.aload_n 0, 1) := by decide +kernel
theorem dX12_nightGoes_39 : decode cX12_nightGoes 39 = .ok (.getfield 7, 3) := by decide +kernel
theorem dX12_nightGoes_42 : decode cX12_nightGoes 42 = .ok (.sipush 208, 3) := by decide +kernel
theorem dX12_nightGoes_45 : decode cX12_nightGoes 45 = .ok (.iaload, 1) := by decide +kernel
theorem dX12_nightGoes_46 : decode cX12_nightGoes 46 = .ok (.iconst 1, 1) := by decide +kernel
theorem dX12_nightGoes_47 : decode cX12_nightGoes 47 = .ok (.iadd, 1) := by decide +kernel
theorem dX12_nightGoes_48 : decode cX12_nightGoes 48 = .ok (.iastore, 1) := by decide +kernel
theorem dX12_nightGoes_49 : decode cX12_nightGoes 49 = .ok (.return_, 1) := by decide +kernel
theorem dX12_nightsGo_0 : decode cX12_nightsGo 0 = .ok (.aload_n 0, 1) := by decide +kernel
theorem dX12_nightsGo_1 : decode cX12_nightsGo 1 = .ok (.iconst 0, 1) := by decide +kernel
theorem dX12_nightsGo_2 : decode cX12_nightsGo 2 = .ok (.putfield 321, 3) := by decide +kernel
theorem dX12_nightsGo_5 : decode cX12_nightsGo 5 = .ok (.aload_n 0, 1) := by decide +kernel
theorem dX12_nightsGo_6 : decode cX12_nightsGo 6 = .ok (.iconst 0, 1) := by decide +kernel
theorem dX12_nightsGo_7 : decode cX12_nightsGo 7 = .ok (.putfield 324, 3) := by decide +kernel
theorem dX12_nightsGo_10 : decode cX12_nightsGo 10 = .ok (.iconst 0, 1) := by decide +kernel
theorem dX12_nightsGo_11 : decode cX12_nightsGo 11 = .ok (.istore_n 2, 1) := by decide +kernel
theorem dX12_nightsGo_12 : decode cX12_nightsGo 12 = .ok (.iload_n 2, 1) := by decide +kernel
theorem dX12_nightsGo_13 : decode cX12_nightsGo 13 = .ok (.iload_n 1, 1) := by decide +kernel
theorem dX12_nightsGo_14 : decode cX12_nightsGo 14 = .ok (.if_icmp .ge 27, 3) := by decide +kernel
theorem dX12_nightsGo_17 : decode cX12_nightsGo 17 = .ok (.aload_n 0, 1) := by decide +kernel
theorem dX12_nightsGo_18 : decode cX12_nightsGo 18 = .ok (.getfield 7, 3) := by decide +kernel
theorem dX12_nightsGo_21 : decode cX12_nightsGo 21 = .ok (.sipush 208, 3) := by decide +kernel
theorem dX12_nightsGo_24 : decode cX12_nightsGo 24 = .ok (.iaload, 1) := by decide +kernel
theorem dX12_nightsGo_25 : decode cX12_nightsGo 25 = .ok (.sipush 9999, 3) := by decide +kernel
theorem dX12_nightsGo_28 : decode cX12_nightsGo 28 = .ok (.if_icmp .ge 13, 3) := by decide +kernel
theorem dX12_nightsGo_31 : decode cX12_nightsGo 31 = .ok (.aload_n 0, 1) := by decide +kernel
theorem dX12_nightsGo_32 : decode cX12_nightsGo 32 = .ok (.invokevirtual 346, 3) := by decide +kernel
theorem dX12_nightsGo_35 : decode cX12_nightsGo 35 = .ok (.iinc 2 1, 3) := by decide +kernel
theorem dX12_nightsGo_38 : decode cX12_nightsGo 38 = .ok (.goto (-26), 3) := by decide +kernel
theorem dX12_nightsGo_41 : decode cX12_nightsGo 41 = .ok (.return_, 1) := by decide +kernel
theorem dX12_nights_0 : decode cX12_nights 0 = .ok (.iload_n 1, 1) := by decide +kernel
theorem dX12_nights_1 : decode cX12_nights 1 = .ok (.iconst 1, 1) := by decide +kernel
theorem dX12_nights_2 : decode cX12_nights 2 = .ok (.bipush 100, 2) := by decide +kernel
theorem dX12_nights_4 : decode cX12_nights 4 = .ok (.invokestatic 117, 3) := by decide +kernel
theorem dX12_nights_7 : decode cX12_nights 7 = .ok (.ifCond .ne 5, 3) := by decide +kernel
theorem dX12_nights_10 : decode cX12_nights 10 = .ok (.iconst (-1), 1) := by decide +kernel
theorem dX12_nights_11 : decode cX12_nights 11 = .ok (.ireturn, 1) := by decide +kernel
theorem dX12_nights_12 : decode cX12_nights 12 = .ok (.aload_n 0, 1) := by decide +kernel
theorem dX12_nights_13 : decode cX12_nights 13 = .ok (.iload_n 1, 1) := by decide +kernel
theorem dX12_nights_14 : decode cX12_nights 14 = .ok (.invokevirtual 349, 3) := by decide +kernel
theorem dX12_nights_17 : decode cX12_nights 17 = .ok (.aload_n 0, 1) := by decide +kernel
theorem dX12_nights_18 : decode cX12_nights 18 = .ok (.getfield 321, 3) := by decide +kernel
theorem dX12_nights_21 : decode cX12_nights 21 = .ok (.ireturn, 1) := by decide +kernel
theorem dX12_orNone_0 : decode cX12_orNone 0 = .ok (.iload_n 0, 1) := by decide +kernel
theorem dX12_orNone_1 : decode cX12_orNone 1 = .ok (.iconst (-1), 1) := by decide +kernel
theorem dX12_orNone_2 : decode cX12_orNone 2 = .ok (.if_icmp .ne 8, 3) := by decide +kernel
theorem dX12_orNone_5 : decode cX12_orNone 5 = .ok (.bipush (-2), 2) := by decide +kernel
theorem dX12_orNone_7 : decode cX12_orNone 7 = .ok (.goto 4, 3) := by decide +kernel
theorem dX12_orNone_10 : decode cX12_orNone 10 = .ok (.iload_n 0, 1) := by decide +kernel
theorem dX12_orNone_11 : decode cX12_orNone 11 = .ok (.ireturn, 1) := by decide +kernel
theorem dX12_tried_0 : decode cX12_tried 0 = .ok (.iload_n 1, 1) := by decide +kernel
theorem dX12_tried_1 : decode cX12_tried 1 = .ok (.iconst 1, 1) := by decide +kernel
theorem dX12_tried_2 : decode cX12_tried 2 = .ok (.bipush 100, 2) := by decide +kernel
theorem dX12_tried_4 : decode cX12_tried 4 = .ok (.invokestatic 117, 3) := by decide +kernel
theorem dX12_tried_7 : decode cX12_tried 7 = .ok (.ifCond .eq 45, 3) := by decide +kernel
theorem dX12_tried_10 : decode cX12_tried 10 = .ok (.iload_n 2, 1) := by decide +kernel
theorem dX12_tried_11 : decode cX12_tried 11 = .ok (.iconst 0, 1) := by decide +kernel
theorem dX12_tried_12 : decode cX12_tried 12 = .ok (.iconst 1, 1) := by decide +kernel
theorem dX12_tried_13 : decode cX12_tried 13 = .ok (.invokestatic 117, 3) := by decide +kernel
theorem dX12_tried_16 : decode cX12_tried 16 = .ok (.ifCond .ne 38, 3) := by decide +kernel
theorem dX12_tried_19 : decode cX12_tried 19 = .ok (.aload_n 0, 1) := by decide +kernel
theorem dX12_tried_20 : decode cX12_tried 20 = .ok (.iload_n 2, 1) := by decide +kernel
theorem dX12_tried_21 : decode cX12_tried 21 = .ok (.bipush 10, 2) := by decide +kernel
theorem dX12_tried_23 : decode cX12_tried 23 = .ok (.isub, 1) := by decide +kernel
theorem dX12_tried_24 : decode cX12_tried 24 = .ok (.invokevirtual 149, 3) := by decide +kernel
theorem dX12_tried_27 : decode cX12_tried 27 = .ok (.ifCond .ne 27, 3) := by decide +kernel
theorem dX12_tried_30 : decode cX12_tried 30 = .ok (.aload_n 0, 1) := by decide +kernel
theorem dX12_tried_31 : decode cX12_tried 31 = .ok (.iload_n 2, 1) := by decide +kernel
theorem dX12_tried_32 : decode cX12_tried 32 = .ok (.bipush 30, 2) := by decide +kernel
theorem dX12_tried_34 : decode cX12_tried 34 = .ok (.isub, 1) := by decide +kernel
theorem dX12_tried_35 : decode cX12_tried 35 = .ok (.invokevirtual 149, 3) := by decide +kernel
theorem dX12_tried_38 : decode cX12_tried 38 = .ok (.ifCond .ne 16, 3) := by decide +kernel
theorem dX12_tried_41 : decode cX12_tried 41 = .ok (.aload_n 0, 1) := by decide +kernel
theorem dX12_tried_42 : decode cX12_tried 42 = .ok (.iload_n 2, 1) := by decide +kernel
theorem dX12_tried_43 : decode cX12_tried 43 = .ok (.bipush 50, 2) := by decide +kernel
theorem dX12_tried_45 : decode cX12_tried 45 = .ok (.isub, 1) := by decide +kernel
theorem dX12_tried_46 : decode cX12_tried 46 = .ok (.invokevirtual 142, 3) := by decide +kernel
theorem dX12_tried_49 : decode cX12_tried 49 = .ok (.ifCond .ne 5, 3) := by decide +kernel
theorem dX12_tried_52 : decode cX12_tried 52 = .ok (.iconst (-1), 1) := by decide +kernel
theorem dX12_tried_53 : decode cX12_tried 53 = .ok (.ireturn, 1) := by decide +kernel
theorem dX12_tried_54 : decode cX12_tried 54 = .ok (.aload_n 0, 1) := by decide +kernel
theorem dX12_tried_55 : decode cX12_tried 55 = .ok (.getfield 7, 3) := by decide +kernel
theorem dX12_tried_58 : decode cX12_tried 58 = .ok (.aload_n 0, 1) := by decide +kernel
theorem dX12_tried_59 : decode cX12_tried 59 = .ok (.getfield 13, 3) := by decide +kernel
theorem dX12_tried_62 : decode cX12_tried 62 = .ok (.invokestatic 280, 3) := by decide +kernel
theorem dX12_tried_65 : decode cX12_tried 65 = .ok (.aload_n 0, 1) := by decide +kernel
theorem dX12_tried_66 : decode cX12_tried 66 = .ok (.iload_n 1, 1) := by decide +kernel
theorem dX12_tried_67 : decode cX12_tried 67 = .ok (.invokevirtual 349, 3) := by decide +kernel
theorem dX12_tried_70 : decode cX12_tried 70 = .ok (.iload_n 2, 1) := by decide +kernel
theorem dX12_tried_71 : decode cX12_tried 71 = .ok (.lookupswitch 41 #[(0, 25), (1, 33)], 25) := by decide +kernel
theorem dX12_tried_96 : decode cX12_tried 96 = .ok (.aload_n 0, 1) := by decide +kernel
theorem dX12_tried_97 : decode cX12_tried 97 = .ok (.getfield 321, 3) := by decide +kernel
theorem dX12_tried_100 : decode cX12_tried 100 = .ok (.istore_n 3, 1) := by decide +kernel
theorem dX12_tried_101 : decode cX12_tried 101 = .ok (.goto 62, 3) := by decide +kernel
theorem dX12_tried_104 : decode cX12_tried 104 = .ok (.aload_n 0, 1) := by decide +kernel
theorem dX12_tried_105 : decode cX12_tried 105 = .ok (.getfield 324, 3) := by decide +kernel
theorem dX12_tried_108 : decode cX12_tried 108 = .ok (.istore_n 3, 1) := by decide +kernel
theorem dX12_tried_109 : decode cX12_tried 109 = .ok (.goto 54, 3) := by decide +kernel
theorem dX12_tried_112 : decode cX12_tried 112 = .ok (.iload_n 2, 1) := by decide +kernel
theorem dX12_tried_113 : decode cX12_tried 113 = .ok (.bipush 30, 2) := by decide +kernel
theorem dX12_tried_115 : decode cX12_tried 115 = .ok (.if_icmp .ge 17, 3) := by decide +kernel
theorem dX12_tried_118 : decode cX12_tried 118 = .ok (.aload_n 0, 1) := by decide +kernel
theorem dX12_tried_119 : decode cX12_tried 119 = .ok (.iload_n 2, 1) := by decide +kernel
theorem dX12_tried_120 : decode cX12_tried 120 = .ok (.bipush 10, 2) := by decide +kernel
theorem dX12_tried_122 : decode cX12_tried 122 = .ok (.isub, 1) := by decide +kernel
theorem dX12_tried_123 : decode cX12_tried 123 = .ok (.invokevirtual 139, 3) := by decide +kernel
theorem dX12_tried_126 : decode cX12_tried 126 = .ok (.invokestatic 352, 3) := by decide +kernel
theorem dX12_tried_129 : decode cX12_tried 129 = .ok (.goto 33, 3) := by decide +kernel
theorem dX12_tried_132 : decode cX12_tried 132 = .ok (.iload_n 2, 1) := by decide +kernel
theorem dX12_tried_133 : decode cX12_tried 133 = .ok (.bipush 50, 2) := by decide +kernel
theorem dX12_tried_135 : decode cX12_tried 135 = .ok (.if_icmp .ge 14, 3) := by decide +kernel
theorem dX12_tried_138 : decode cX12_tried 138 = .ok (.aload_n 0, 1) := by decide +kernel
theorem dX12_tried_139 : decode cX12_tried 139 = .ok (.iload_n 2, 1) := by decide +kernel
theorem dX12_tried_140 : decode cX12_tried 140 = .ok (.bipush 30, 2) := by decide +kernel
theorem dX12_tried_142 : decode cX12_tried 142 = .ok (.isub, 1) := by decide +kernel
theorem dX12_tried_143 : decode cX12_tried 143 = .ok (.invokevirtual 135, 3) := by decide +kernel
theorem dX12_tried_146 : decode cX12_tried 146 = .ok (.goto 16, 3) := by decide +kernel
theorem dX12_tried_149 : decode cX12_tried 149 = .ok (.aload_n 0, 1) := by decide +kernel
theorem dX12_tried_150 : decode cX12_tried 150 = .ok (.getfield 7, 3) := by decide +kernel
theorem dX12_tried_153 : decode cX12_tried 153 = .ok (.sipush 192, 3) := by decide +kernel
theorem dX12_tried_156 : decode cX12_tried 156 = .ok (.iload_n 2, 1) := by decide +kernel
theorem dX12_tried_157 : decode cX12_tried 157 = .ok (.iadd, 1) := by decide +kernel
theorem dX12_tried_158 : decode cX12_tried 158 = .ok (.bipush 50, 2) := by decide +kernel
theorem dX12_tried_160 : decode cX12_tried 160 = .ok (.isub, 1) := by decide +kernel
theorem dX12_tried_161 : decode cX12_tried 161 = .ok (.iaload, 1) := by decide +kernel
theorem dX12_tried_162 : decode cX12_tried 162 = .ok (.istore_n 3, 1) := by decide +kernel
theorem dX12_tried_163 : decode cX12_tried 163 = .ok (.aload_n 0, 1) := by decide +kernel
theorem dX12_tried_164 : decode cX12_tried 164 = .ok (.getfield 13, 3) := by decide +kernel
theorem dX12_tried_167 : decode cX12_tried 167 = .ok (.aload_n 0, 1) := by decide +kernel
theorem dX12_tried_168 : decode cX12_tried 168 = .ok (.getfield 7, 3) := by decide +kernel
theorem dX12_tried_171 : decode cX12_tried 171 = .ok (.invokestatic 280, 3) := by decide +kernel
theorem dX12_tried_174 : decode cX12_tried 174 = .ok (.iload_n 3, 1) := by decide +kernel
theorem dX12_tried_175 : decode cX12_tried 175 = .ok (.ireturn, 1) := by decide +kernel
theorem dX12_personIs_0 : decode cX12_personIs 0 = .ok (.aload_n 0, 1) := by decide +kernel
theorem dX12_personIs_1 : decode cX12_personIs 1 = .ok (.iload_n 1, 1) := by decide +kernel
theorem dX12_personIs_2 : decode cX12_personIs 2 = .ok (.invokevirtual 149, 3) := by decide +kernel
theorem dX12_personIs_5 : decode cX12_personIs 5 = .ok (.ifCond .ne 5, 3) := by decide +kernel
theorem dX12_personIs_8 : decode cX12_personIs 8 = .ok (.iconst (-1), 1) := by decide +kernel
theorem dX12_personIs_9 : decode cX12_personIs 9 = .ok (.ireturn, 1) := by decide +kernel
theorem dX12_personIs_10 : decode cX12_personIs 10 = .ok (.iload_n 2, 1) := by decide +kernel
theorem dX12_personIs_11 : decode cX12_personIs 11 = .ok (.iconst 0, 1) := by decide +kernel
theorem dX12_personIs_12 : decode cX12_personIs 12 = .ok (.bipush 15, 2) := by decide +kernel
theorem dX12_personIs_14 : decode cX12_personIs 14 = .ok (.invokestatic 117, 3) := by decide +kernel
theorem dX12_personIs_17 : decode cX12_personIs 17 = .ok (.ifCond .eq 10, 3) := by decide +kernel
theorem dX12_personIs_20 : decode cX12_personIs 20 = .ok (.aload_n 0, 1) := by decide +kernel
theorem dX12_personIs_21 : decode cX12_personIs 21 = .ok (.iload_n 1, 1) := by decide +kernel
theorem dX12_personIs_22 : decode cX12_personIs 22 = .ok (.iload_n 2, 1) := by decide +kernel
theorem dX12_personIs_23 : decode cX12_personIs 23 = .ok (.invokevirtual 132, 3) := by decide +kernel
theorem dX12_personIs_26 : decode cX12_personIs 26 = .ok (.ireturn, 1) := by decide +kernel
theorem dX12_personIs_27 : decode cX12_personIs 27 = .ok (.iload_n 2, 1) := by decide +kernel
theorem dX12_personIs_28 : decode cX12_personIs 28 = .ok (.tableswitch 70 100 104 #[36, 45, 51, 58, 64], 36) := by decide +kernel
theorem dX12_personIs_64 : decode cX12_personIs 64 = .ok (.aload_n 0, 1) := by decide +kernel
theorem dX12_personIs_65 : decode cX12_personIs 65 = .ok (.iload_n 1, 1) := by decide +kernel
theorem dX12_personIs_66 : decode cX12_personIs 66 = .ok (.invokevirtual 139, 3) := by decide +kernel
theorem dX12_personIs_69 : decode cX12_personIs 69 = .ok (.invokestatic 352, 3) := by decide +kernel
theorem dX12_personIs_72 : decode cX12_personIs 72 = .ok (.ireturn, 1) := by decide +kernel
theorem dX12_personIs_73 : decode cX12_personIs 73 = .ok (.aload_n 0, 1) := by decide +kernel
theorem dX12_personIs_74 : decode cX12_personIs 74 = .ok (.iload_n 1, 1) := by decide +kernel
theorem dX12_personIs_75 : decode cX12_personIs 75 = .ok (.invokevirtual 135, 3) := by decide +kernel
theorem dX12_personIs_78 : decode cX12_personIs 78 = .ok (.ireturn, 1) := by decide +kernel
theorem dX12_personIs_79 : decode cX12_personIs 79 = .ok (.aload_n 0, 1) := by decide +kernel
theorem dX12_personIs_80 : decode cX12_personIs 80 = .ok (.getfield 19, 3) := by decide +kernel
theorem dX12_personIs_83 : decode cX12_personIs 83 = .ok (.iload_n 1, 1) := by decide +kernel
theorem dX12_personIs_84 : decode cX12_personIs 84 = .ok (.iaload, 1) := by decide +kernel
theorem dX12_personIs_85 : decode cX12_personIs 85 = .ok (.ireturn, 1) := by decide +kernel
theorem dX12_personIs_86 : decode cX12_personIs 86 = .ok (.aload_n 0, 1) := by decide +kernel
theorem dX12_personIs_87 : decode cX12_personIs 87 = .ok (.iload_n 1, 1) := by decide +kernel
theorem dX12_personIs_88 : decode cX12_personIs 88 = .ok (.invokevirtual 355, 3) := by decide +kernel
theorem dX12_personIs_91 : decode cX12_personIs 91 = .ok (.ireturn, 1) := by decide +kernel
theorem dX12_personIs_92 : decode cX12_personIs 92 = .ok (.aload_n 0, 1) := by decide +kernel
theorem dX12_personIs_93 : decode cX12_personIs 93 = .ok (.iload_n 1, 1) := by decide +kernel
theorem dX12_personIs_94 : decode cX12_personIs 94 = .ok (.invokevirtual 358, 3) := by decide +kernel
theorem dX12_personIs_97 : decode cX12_personIs 97 = .ok (.ireturn, 1) := by decide +kernel
theorem dX12_personIs_98 : decode cX12_personIs 98 = .ok (.iconst (-1), 1) := by decide +kernel
theorem dX12_personIs_99 : decode cX12_personIs 99 = .ok (.ireturn, 1) := by decide +kernel
theorem dX12_doorIs_0 : decode cX12_doorIs 0 = .ok (.aload_n 0, 1) := by decide +kernel
theorem dX12_doorIs_1 : decode cX12_doorIs 1 = .ok (.iload_n 1, 1) := by decide +kernel
theorem dX12_doorIs_2 : decode cX12_doorIs 2 = .ok (.invokevirtual 142, 3) := by decide +kernel
theorem dX12_doorIs_5 : decode cX12_doorIs 5 = .ok (.ifCond .ne 5, 3) := by decide +kernel
theorem dX12_doorIs_8 : decode cX12_doorIs 8 = .ok (.iconst (-1), 1) := by decide +kernel
theorem dX12_doorIs_9 : decode cX12_doorIs 9 = .ok (.ireturn, 1) := by decide +kernel
theorem dX12_doorIs_10 : decode cX12_doorIs 10 = .ok (.iload_n 2, 1) := by decide +kernel
theorem dX12_doorIs_11 : decode cX12_doorIs 11 = .ok (.tableswitch 60 0 3 #[29, 36, 43, 54], 29) := by decide +kernel
theorem dX12_doorIs_40 : decode cX12_doorIs 40 = .ok (.aload_n 0, 1) := by decide +kernel
theorem dX12_doorIs_41 : decode cX12_doorIs 41 = .ok (.getfield 25, 3) := by decide +kernel
theorem dX12_doorIs_44 : decode cX12_doorIs 44 = .ok (.iload_n 1, 1) := by decide +kernel
theorem dX12_doorIs_45 : decode cX12_doorIs 45 = .ok (.iaload, 1) := by decide +kernel
theorem dX12_doorIs_46 : decode cX12_doorIs 46 = .ok (.ireturn, 1) := by decide +kernel
theorem dX12_doorIs_47 : decode cX12_doorIs 47 = .ok (.aload_n 0, 1) := by decide +kernel
theorem dX12_doorIs_48 : decode cX12_doorIs 48 = .ok (.getfield 28, 3) := by decide +kernel
theorem dX12_doorIs_51 : decode cX12_doorIs 51 = .ok (.iload_n 1, 1) := by decide +kernel
theorem dX12_doorIs_52 : decode cX12_doorIs 52 = .ok (.iaload, 1) := by decide +kernel
theorem dX12_doorIs_53 : decode cX12_doorIs 53 = .ok (.ireturn, 1) := by decide +kernel
theorem dX12_doorIs_54 : decode cX12_doorIs 54 = .ok (.aload_n 0, 1) := by decide +kernel
theorem dX12_doorIs_55 : decode cX12_doorIs 55 = .ok (.getfield 7, 3) := by decide +kernel
theorem dX12_doorIs_58 : decode cX12_doorIs 58 = .ok (.sipush 192, 3) := by decide +kernel
theorem dX12_doorIs_61 : decode cX12_doorIs 61 = .ok (.iload_n 1, 1) := by decide +kernel
theorem dX12_doorIs_62 : decode cX12_doorIs 62 = .ok (.iadd, 1) := by decide +kernel
theorem dX12_doorIs_63 : decode cX12_doorIs 63 = .ok (.iaload, 1) := by decide +kernel
theorem dX12_doorIs_64 : decode cX12_doorIs 64 = .ok (.ireturn, 1) := by decide +kernel
theorem dX12_doorIs_65 : decode cX12_doorIs 65 = .ok (.aload_n 0, 1) := by decide +kernel
theorem dX12_doorIs_66 : decode cX12_doorIs 66 = .ok (.iload_n 1, 1) := by decide +kernel
theorem dX12_doorIs_67 : decode cX12_doorIs 67 = .ok (.invokevirtual 361, 3) := by decide +kernel
theorem dX12_doorIs_70 : decode cX12_doorIs 70 = .ok (.ireturn, 1) := by decide +kernel
theorem dX12_doorIs_71 : decode cX12_doorIs 71 = .ok (.iconst (-1), 1) := by decide +kernel
theorem dX12_doorIs_72 : decode cX12_doorIs 72 = .ok (.ireturn, 1) := by decide +kernel
theorem dX12_taught_0 : decode cX12_taught 0 = .ok (.aload_n 0, 1) := by decide +kernel
theorem dX12_taught_1 : decode cX12_taught 1 = .ok (.iload_n 1, 1) := by decide +kernel
theorem dX12_taught_2 : decode cX12_taught 2 = .ok (.invokevirtual 149, 3) := by decide +kernel
theorem dX12_taught_5 : decode cX12_taught 5 = .ok (.ifCond .eq 11, 3) := by decide +kernel
theorem dX12_taught_8 : decode cX12_taught 8 = .ok (.aload_n 0, 1) := by decide +kernel
theorem dX12_taught_9 : decode cX12_taught 9 = .ok (.iload_n 2, 1) := by decide +kernel
theorem dX12_taught_10 : decode cX12_taught 10 = .ok (.invokevirtual 142, 3) := by decide +kernel
theorem dX12_taught_13 : decode cX12_taught 13 = .ok (.ifCond .ne 5, 3) := by decide +kernel
theorem dX12_taught_16 : decode cX12_taught 16 = .ok (.iconst (-1), 1) := by decide +kernel
theorem dX12_taught_17 : decode cX12_taught 17 = .ok (.ireturn, 1) := by decide +kernel
theorem dX12_taught_18 : decode cX12_taught 18 = .ok (.ldc_w 364, 3) := by decide +kernel
theorem dX12_taught_21 : decode cX12_taught 21 = .ok (.istore_n 3, 1) := by decide +kernel
theorem dX12_taught_22 : decode cX12_taught 22 = .ok (.iconst 1, 1) := by decide +kernel
theorem dX12_taught_23 : decode cX12_taught 23 = .ok (.aload_n 0, 1) := by decide +kernel
theorem dX12_taught_24 : decode cX12_taught 24 = .ok (.getfield 28, 3) := by decide +kernel
theorem dX12_taught_27 : decode cX12_taught 27 = .ok (.iload_n 2, 1) := by decide +kernel
theorem dX12_taught_28 : decode cX12_taught 28 = .ok (.iaload, 1) := by decide +kernel
theorem dX12_taught_29 : decode cX12_taught 29 = .ok (.invokestatic 114, 3) := by decide +kernel
theorem dX12_taught_32 : decode cX12_taught 32 = .ok (.istore 4, 2) := by decide +kernel
theorem dX12_taught_34 : decode cX12_taught 34 = .ok (.iload 4, 2) := by decide +kernel
theorem dX12_taught_36 : decode cX12_taught 36 = .ok (.bipush 99, 2) := by decide +kernel
theorem dX12_taught_38 : decode cX12_taught 38 = .ok (.if_icmp .gt 83, 3) := by decide +kernel
theorem dX12_taught_41 : decode cX12_taught 41 = .ok (.iload 4, 2) := by decide +kernel
theorem dX12_taught_43 : decode cX12_taught 43 = .ok (.aload_n 0, 1) := by decide +kernel
theorem dX12_taught_44 : decode cX12_taught 44 = .ok (.iload_n 1, 1) := by decide +kernel
theorem dX12_taught_45 : decode cX12_taught 45 = .ok (.aload_n 0, 1) := by decide +kernel
theorem dX12_taught_46 : decode cX12_taught 46 = .ok (.getfield 25, 3) := by decide +kernel
theorem dX12_taught_49 : decode cX12_taught 49 = .ok (.iload_n 2, 1) := by decide +kernel
theorem dX12_taught_50 : decode cX12_taught 50 = .ok (.iaload, 1) := by decide +kernel
theorem dX12_taught_51 : decode cX12_taught 51 = .ok (.invokevirtual 132, 3) := by decide +kernel
theorem dX12_taught_54 : decode cX12_taught 54 = .ok (.isub, 1) := by decide +kernel
theorem dX12_taught_55 : decode cX12_taught 55 = .ok (.invokestatic 365, 3) := by decide +kernel
theorem dX12_taught_58 : decode cX12_taught 58 = .ok (.istore 5, 2) := by decide +kernel
theorem dX12_taught_60 : decode cX12_taught 60 = .ok (.iconst 0, 1) := by decide +kernel
theorem dX12_taught_61 : decode cX12_taught 61 = .ok (.istore 6, 2) := by decide +kernel
theorem dX12_taught_63 : decode cX12_taught 63 = .ok (.iload 6, 2) := by decide +kernel
theorem dX12_taught_65 : decode cX12_taught 65 = .ok (.bipush 16, 2) := by decide +kernel
theorem dX12_taught_67 : decode cX12_taught 67 = .ok (.if_icmp .ge 41, 3) := by decide +kernel
theorem dX12_taught_70 : decode cX12_taught 70 = .ok (.iload 6, 2) := by decide +kernel
theorem dX12_taught_72 : decode cX12_taught 72 = .ok (.aload_n 0, 1) := by decide +kernel
theorem dX12_taught_73 : decode cX12_taught 73 = .ok (.getfield 25, 3) := by decide +kernel
theorem dX12_taught_76 : decode cX12_taught 76 = .ok (.iload_n 2, 1) := by decide +kernel
theorem dX12_taught_77 : decode cX12_taught 77 = .ok (.iaload, 1) := by decide +kernel
theorem dX12_taught_78 : decode cX12_taught 78 = .ok (.if_icmp .eq 24, 3) := by decide +kernel
theorem dX12_taught_81 : decode cX12_taught 81 = .ok (.iload 5, 2) := by decide +kernel
theorem dX12_taught_83 : decode cX12_taught 83 = .ok (.iconst 0, 1) := by decide +kernel
theorem dX12_taught_84 : decode cX12_taught 84 = .ok (.aload_n 0, 1) := by decide +kernel
theorem dX12_taught_85 : decode cX12_taught 85 = .ok (.iload_n 1, 1) := by decide +kernel
theorem dX12_taught_86 : decode cX12_taught 86 = .ok (.iload 6, 2) := by decide +kernel
theorem dX12_taught_88 : decode cX12_taught 88 = .ok (.invokevirtual 132, 3) := by decide +kernel
theorem dX12_taught_91 : decode cX12_taught 91 = .ok (.iload 4, 2) := by decide +kernel
theorem dX12_taught_93 : decode cX12_taught 93 = .ok (.isub, 1) := by decide +kernel
theorem dX12_taught_94 : decode cX12_taught 94 = .ok (.iconst 1, 1) := by decide +kernel
theorem dX12_taught_95 : decode cX12_taught 95 = .ok (.iadd, 1) := by decide +kernel
theorem dX12_taught_96 : decode cX12_taught 96 = .ok (.invokestatic 114, 3) := by decide +kernel
theorem dX12_taught_99 : decode cX12_taught 99 = .ok (.iadd, 1) := by decide +kernel
theorem dX12_taught_100 : decode cX12_taught 100 = .ok (.istore 5, 2) := by decide +kernel
theorem dX12_taught_102 : decode cX12_taught 102 = .ok (.iinc 6 1, 3) := by decide +kernel
theorem dX12_taught_105 : decode cX12_taught 105 = .ok (.goto (-42), 3) := by decide +kernel
theorem dX12_taught_108 : decode cX12_taught 108 = .ok (.iload_n 3, 1) := by decide +kernel
theorem dX12_taught_109 : decode cX12_taught 109 = .ok (.iload 5, 2) := by decide +kernel
theorem dX12_taught_111 : decode cX12_taught 111 = .ok (.invokestatic 110, 3) := by decide +kernel
theorem dX12_taught_114 : decode cX12_taught 114 = .ok (.istore_n 3, 1) := by decide +kernel
theorem dX12_taught_115 : decode cX12_taught 115 = .ok (.iinc 4 1, 3) := by decide +kernel
theorem dX12_taught_118 : decode cX12_taught 118 = .ok (.goto (-84), 3) := by decide +kernel
theorem dX12_taught_121 : decode cX12_taught 121 = .ok (.iload_n 3, 1) := by decide +kernel
theorem dX12_taught_122 : decode cX12_taught 122 = .ok (.ireturn, 1) := by decide +kernel
theorem dX12_laysWho_0 : decode cX12_laysWho 0 = .ok (.iconst 0, 1) := by decide +kernel
theorem dX12_laysWho_1 : decode cX12_laysWho 1 = .ok (.istore_n 1, 1) := by decide +kernel
theorem dX12_laysWho_2 : decode cX12_laysWho 2 = .ok (.iload_n 1, 1) := by decide +kernel
theorem dX12_laysWho_3 : decode cX12_laysWho 3 = .ok (.bipush 16, 2) := by decide +kernel
theorem dX12_laysWho_5 : decode cX12_laysWho 5 = .ok (.if_icmp .ge 32, 3) := by decide +kernel
theorem dX12_laysWho_8 : decode cX12_laysWho 8 = .ok (.aload_n 0, 1) := by decide +kernel
theorem dX12_laysWho_9 : decode cX12_laysWho 9 = .ok (.getfield 93, 3) := by decide +kernel
theorem dX12_laysWho_12 : decode cX12_laysWho 12 = .ok (.iload_n 1, 1) := by decide +kernel
theorem dX12_laysWho_13 : decode cX12_laysWho 13 = .ok (.aload_n 0, 1) := by decide +kernel
theorem dX12_laysWho_14 : decode cX12_laysWho 14 = .ok (.iload_n 1, 1) := by decide +kernel
theorem dX12_laysWho_15 : decode cX12_laysWho 15 = .ok (.invokevirtual 142, 3) := by decide +kernel
theorem dX12_laysWho_18 : decode cX12_laysWho 18 = .ok (.ifCond .eq 11, 3) := by decide +kernel
theorem dX12_laysWho_21 : decode cX12_laysWho 21 = .ok (.aload_n 0, 1) := by decide +kernel
theorem dX12_laysWho_22 : decode cX12_laysWho 22 = .ok (.iload_n 1, 1) := by decide +kernel
theorem dX12_laysWho_23 : decode cX12_laysWho 23 = .ok (.invokevirtual 361, 3) := by decide +kernel
theorem dX12_laysWho_26 : decode cX12_laysWho 26 = .ok (.goto 4, 3) := by decide +kernel
theorem dX12_laysWho_29 : decode cX12_laysWho 29 = .ok (.iconst (-1), 1) := by decide +kernel
theorem dX12_laysWho_30 : decode cX12_laysWho 30 = .ok (.iastore, 1) := by decide +kernel
theorem dX12_laysWho_31 : decode cX12_laysWho 31 = .ok (.iinc 1 1, 3) := by decide +kernel
theorem dX12_laysWho_34 : decode cX12_laysWho 34 = .ok (.goto (-32), 3) := by decide +kernel
theorem dX12_laysWho_37 : decode cX12_laysWho 37 = .ok (.return_, 1) := by decide +kernel
theorem dX12_isCrew_0 : decode cX12_isCrew 0 = .ok (.iconst 0, 1) := by decide +kernel
theorem dX12_isCrew_1 : decode cX12_isCrew 1 = .ok (.istore_n 2, 1) := by decide +kernel
theorem dX12_isCrew_2 : decode cX12_isCrew 2 = .ok (.iload_n 2, 1) := by decide +kernel
theorem dX12_isCrew_3 : decode cX12_isCrew 3 = .ok (.bipush 16, 2) := by decide +kernel
theorem dX12_isCrew_5 : decode cX12_isCrew 5 = .ok (.if_icmp .ge 32, 3) := by decide +kernel
theorem dX12_isCrew_8 : decode cX12_isCrew 8 = .ok (.aload_n 0, 1) := by decide +kernel
theorem dX12_isCrew_9 : decode cX12_isCrew 9 = .ok (.getfield 93, 3) := by decide +kernel
theorem dX12_isCrew_12 : decode cX12_isCrew 12 = .ok (.iload_n 2, 1) := by decide +kernel
theorem dX12_isCrew_13 : decode cX12_isCrew 13 = .ok (.iaload, 1) := by decide +kernel
theorem dX12_isCrew_14 : decode cX12_isCrew 14 = .ok (.iconst (-1), 1) := by decide +kernel
theorem dX12_isCrew_15 : decode cX12_isCrew 15 = .ok (.if_icmp .eq 16, 3) := by decide +kernel
theorem dX12_isCrew_18 : decode cX12_isCrew 18 = .ok (.aload_n 0, 1) := by decide +kernel
theorem dX12_isCrew_19 : decode cX12_isCrew 19 = .ok (.getfield 93, 3) := by decide +kernel
theorem dX12_isCrew_22 : decode cX12_isCrew 22 = .ok (.iload_n 2, 1) := by decide +kernel
theorem dX12_isCrew_23 : decode cX12_isCrew 23 = .ok (.iaload, 1) := by decide +kernel
theorem dX12_isCrew_24 : decode cX12_isCrew 24 = .ok (.iload_n 1, 1) := by decide +kernel
theorem dX12_isCrew_25 : decode cX12_isCrew 25 = .ok (.iand, 1) := by decide +kernel
theorem dX12_isCrew_26 : decode cX12_isCrew 26 = .ok (.ifCond .ne 5, 3) := by decide +kernel
theorem dX12_isCrew_29 : decode cX12_isCrew 29 = .ok (.iconst 0, 1) := by decide +kernel
theorem dX12_isCrew_30 : decode cX12_isCrew 30 = .ok (.ireturn, 1) := by decide +kernel
theorem dX12_isCrew_31 : decode cX12_isCrew 31 = .ok (.iinc 2 1, 3) := by decide +kernel
theorem dX12_isCrew_34 : decode cX12_isCrew 34 = .ok (.goto (-32), 3) := by decide +kernel
theorem dX12_isCrew_37 : decode cX12_isCrew 37 = .ok (.iconst 1, 1) := by decide +kernel
theorem dX12_isCrew_38 : decode cX12_isCrew 38 = .ok (.ireturn, 1) := by decide +kernel
theorem dX12_crew_0 : decode cX12_crew 0 = .ok (.iload_n 1, 1) := by decide +kernel
theorem dX12_crew_1 : decode cX12_crew 1 = .ok (.iconst 0, 1) := by decide +kernel
theorem dX12_crew_2 : decode cX12_crew 2 = .ok (.iconst 1, 1) := by decide +kernel
theorem dX12_crew_3 : decode cX12_crew 3 = .ok (.invokestatic 117, 3) := by decide +kernel
theorem dX12_crew_6 : decode cX12_crew 6 = .ok (.ifCond .ne 5, 3) := by decide +kernel
theorem dX12_crew_9 : decode cX12_crew 9 = .ok (.iconst (-1), 1) := by decide +kernel
theorem dX12_crew_10 : decode cX12_crew 10 = .ok (.ireturn, 1) := by decide +kernel
theorem dX12_crew_11 : decode cX12_crew 11 = .ok (.aload_n 0, 1) := by decide +kernel
theorem dX12_crew_12 : decode cX12_crew 12 = .ok (.invokevirtual 368, 3) := by decide +kernel
theorem dX12_crew_15 : decode cX12_crew 15 = .ok (.bipush (-2), 2) := by decide +kernel
theorem dX12_crew_17 : decode cX12_crew 17 = .ok (.istore_n 2, 1) := by decide +kernel
theorem dX12_crew_18 : decode cX12_crew 18 = .ok (.sipush 4095, 3) := by decide +kernel
theorem dX12_crew_21 : decode cX12_crew 21 = .ok (.istore_n 3, 1) := by decide +kernel
theorem dX12_crew_22 : decode cX12_crew 22 = .ok (.iload_n 3, 1) := by decide +kernel
theorem dX12_crew_23 : decode cX12_crew 23 = .ok (.ifCond .lt 36, 3) := by decide +kernel
theorem dX12_crew_26 : decode cX12_crew 26 = .ok (.aload_n 0, 1) := by decide +kernel
theorem dX12_crew_27 : decode cX12_crew 27 = .ok (.iload_n 3, 1) := by decide +kernel
theorem dX12_crew_28 : decode cX12_crew 28 = .ok (.invokevirtual 371, 3) := by decide +kernel
theorem dX12_crew_31 : decode cX12_crew 31 = .ok (.ifCond .eq 22, 3) := by decide +kernel
theorem dX12_crew_34 : decode cX12_crew 34 = .ok (.iload_n 2, 1) := by decide +kernel
theorem dX12_crew_35 : decode cX12_crew 35 = .ok (.bipush (-2), 2) := by decide +kernel
theorem dX12_crew_37 : decode cX12_crew 37 = .ok (.if_icmp .eq 14, 3) := by decide +kernel
theorem dX12_crew_40 : decode cX12_crew 40 = .ok (.iload_n 3, 1) := by decide +kernel
theorem dX12_crew_41 : decode cX12_crew 41 = .ok (.invokestatic 308, 3) := by decide +kernel
theorem dX12_crew_44 : decode cX12_crew 44 = .ok (.iload_n 2, 1) := by decide +kernel
theorem dX12_crew_45 : decode cX12_crew 45 = .ok (.invokestatic 308, 3) := by decide +kernel
theorem dX12_crew_48 : decode cX12_crew 48 = .ok (.if_icmp .gt 5, 3) := by decide +kernel
theorem dX12_crew_51 : decode cX12_crew 51 = .ok (.iload_n 3, 1) := by decide +kernel
theorem dX12_crew_52 : decode cX12_crew 52 = .ok (.istore_n 2, 1) := by decide +kernel
theorem dX12_crew_53 : decode cX12_crew 53 = .ok (.iinc 3 (-1), 3) := by decide +kernel
theorem dX12_crew_56 : decode cX12_crew 56 = .ok (.goto (-34), 3) := by decide +kernel
theorem dX12_crew_59 : decode cX12_crew 59 = .ok (.iload_n 1, 1) := by decide +kernel
theorem dX12_crew_60 : decode cX12_crew 60 = .ok (.iconst 1, 1) := by decide +kernel
theorem dX12_crew_61 : decode cX12_crew 61 = .ok (.if_icmp .eq 9, 3) := by decide +kernel
theorem dX12_crew_64 : decode cX12_crew 64 = .ok (.iload_n 2, 1) := by decide +kernel
theorem dX12_crew_65 : decode cX12_crew 65 = .ok (.bipush (-2), 2) := by decide +kernel
theorem dX12_crew_67 : decode cX12_crew 67 = .ok (.if_icmp .ne 7, 3) := by decide +kernel
theorem dX12_crew_70 : decode cX12_crew 70 = .ok (.iload_n 2, 1) := by decide +kernel
theorem dX12_crew_71 : decode cX12_crew 71 = .ok (.goto 7, 3) := by decide +kernel
theorem dX12_crew_74 : decode cX12_crew 74 = .ok (.iload_n 2, 1) := by decide +kernel
theorem dX12_crew_75 : decode cX12_crew 75 = .ok (.invokestatic 308, 3) := by decide +kernel
theorem dX12_crew_78 : decode cX12_crew 78 = .ok (.ireturn, 1) := by decide +kernel
theorem dX12_lodgings_0 : decode cX12_lodgings 0 = .ok (.aload_n 0, 1) := by decide +kernel
theorem dX12_lodgings_1 : decode cX12_lodgings 1 = .ok (.invokevirtual 368, 3) := by decide +kernel
theorem dX12_lodgings_4 : decode cX12_lodgings 4 = .ok (.iconst 0, 1) := by decide +kernel
theorem dX12_lodgings_5 : decode cX12_lodgings 5 = .ok (.istore_n 1, 1) := by decide +kernel
theorem dX12_lodgings_6 : decode cX12_lodgings 6 = .ok (.iload_n 1, 1) := by decide +kernel
theorem dX12_lodgings_7 : decode cX12_lodgings 7 = .ok (.sipush 4096, 3) := by decide +kernel
theorem dX12_lodgings_10 : decode cX12_lodgings 10 = .ok (.if_icmp .ge 24, 3) := by decide +kernel
theorem dX12_lodgings_13 : decode cX12_lodgings 13 = .ok (.aload_n 0, 1) := by decide +kernel
theorem dX12_lodgings_14 : decode cX12_lodgings 14 = .ok (.getfield 86, 3) := by decide +kernel
theorem dX12_lodgings_17 : decode cX12_lodgings 17 = .ok (.iload_n 1, 1) := by decide +kernel
theorem dX12_lodgings_18 : decode cX12_lodgings 18 = .ok (.iload_n 1, 1) := by decide +kernel
theorem dX12_lodgings_19 : decode cX12_lodgings 19 = .ok (.ifCond .ne 7, 3) := by decide +kernel
theorem dX12_lodgings_22 : decode cX12_lodgings 22 = .ok (.iconst 1, 1) := by decide +kernel
theorem dX12_lodgings_23 : decode cX12_lodgings 23 = .ok (.goto 4, 3) := by decide +kernel
theorem dX12_lodgings_26 : decode cX12_lodgings 26 = .ok (.iconst 0, 1) := by decide +kernel
theorem dX12_lodgings_27 : decode cX12_lodgings 27 = .ok (.bastore, 1) := by decide +kernel
theorem dX12_lodgings_28 : decode cX12_lodgings 28 = .ok (.iinc 1 1, 3) := by decide +kernel
theorem dX12_lodgings_31 : decode cX12_lodgings 31 = .ok (.goto (-25), 3) := by decide +kernel
theorem dX12_lodgings_34 : decode cX12_lodgings 34 = .ok (.iconst 0, 1) := by decide +kernel
theorem dX12_lodgings_35 : decode cX12_lodgings 35 = .ok (.istore_n 1, 1) := by decide +kernel
theorem dX12_lodgings_36 : decode cX12_lodgings 36 = .ok (.iconst 0, 1) := by decide +kernel
theorem dX12_lodgings_37 : decode cX12_lodgings 37 = .ok (.istore_n 2, 1) := by decide +kernel
theorem dX12_lodgings_38 : decode cX12_lodgings 38 = .ok (.iload_n 2, 1) := by decide +kernel
theorem dX12_lodgings_39 : decode cX12_lodgings 39 = .ok (.bipush 16, 2) := by decide +kernel
theorem dX12_lodgings_41 : decode cX12_lodgings 41 = .ok (.if_icmp .ge 110, 3) := by decide +kernel
theorem dX12_lodgings_44 : decode cX12_lodgings 44 = .ok (.sipush 4095, 3) := by decide +kernel
theorem dX12_lodgings_47 : decode cX12_lodgings 47 = .ok (.istore_n 3, 1) := by decide +kernel
theorem dX12_lodgings_48 : decode cX12_lodgings 48 = .ok (.iload_n 3, 1) := by decide +kernel
theorem dX12_lodgings_49 : decode cX12_lodgings 49 = .ok (.ifCond .lt 96, 3) := by decide +kernel
theorem dX12_lodgings_52 : decode cX12_lodgings 52 = .ok (.aload_n 0, 1) := by decide +kernel
theorem dX12_lodgings_53 : decode cX12_lodgings 53 = .ok (.getfield 93, 3) := by decide +kernel
theorem dX12_lodgings_56 : decode cX12_lodgings 56 = .ok (.iload_n 2, 1) := by decide +kernel
theorem dX12_lodgings_57 : decode cX12_lodgings 57 = .ok (.iaload, 1) := by decide +kernel
theorem dX12_lodgings_58 : decode cX12_lodgings 58 = .ok (.iconst (-1), 1) := by decide +kernel
theorem dX12_lodgings_59 : decode cX12_lodgings 59 = .ok (.if_icmp .eq 86, 3) := by decide +kernel
theorem dX12_lodgings_62 : decode cX12_lodgings 62 = .ok (.aload_n 0, 1) := by decide +kernel
theorem dX12_lodgings_63 : decode cX12_lodgings 63 = .ok (.getfield 86, 3) := by decide +kernel
theorem dX12_lodgings_66 : decode cX12_lodgings 66 = .ok (.iload_n 3, 1) := by decide +kernel
theorem dX12_lodgings_67 : decode cX12_lodgings 67 = .ok (.baload, 1) := by decide +kernel
theorem dX12_lodgings_68 : decode cX12_lodgings 68 = .ok (.ifCond .ne 6, 3) := by decide +kernel
theorem dX12_lodgings_71 : decode cX12_lodgings 71 = .ok (.goto 68, 3) := by decide +kernel
theorem dX12_lodgings_74 : decode cX12_lodgings 74 = .ok (.iconst 0, 1) := by decide +kernel
theorem dX12_lodgings_75 : decode cX12_lodgings 75 = .ok (.istore 4, 2) := by decide +kernel
theorem dX12_lodgings_77 : decode cX12_lodgings 77 = .ok (.iload 4, 2) := by decide +kernel
theorem dX12_lodgings_79 : decode cX12_lodgings 79 = .ok (.bipush 12, 2) := by decide +kernel
theorem dX12_lodgings_81 : decode cX12_lodgings 81 = .ok (.if_icmp .ge 58, 3) := by decide +kernel
theorem dX12_lodgings_84 : decode cX12_lodgings 84 = .ok (.aload_n 0, 1) := by decide +kernel
theorem dX12_lodgings_85 : decode cX12_lodgings 85 = .ok (.getfield 93, 3) := by decide +kernel
theorem dX12_lodgings_88 : decode cX12_lodgings 88 = .ok (.iload_n 2, 1) := by decide +kernel
theorem dX12_lodgings_89 : decode cX12_lodgings 89 = .ok (.iaload, 1) := by decide +kernel
theorem dX12_lodgings_90 : decode cX12_lodgings 90 = .ok (.iload 4, 2) := by decide +kernel
theorem dX12_lodgings_92 : decode cX12_lodgings 92 = .ok (.invokestatic 125, 3) := by decide +kernel
theorem dX12_lodgings_95 : decode cX12_lodgings 95 = .ok (.ifCond .eq 38, 3) := by decide +kernel
theorem dX12_lodgings_98 : decode cX12_lodgings 98 = .ok (.iload_n 3, 1) := by decide +kernel
theorem dX12_lodgings_99 : decode cX12_lodgings 99 = .ok (.iload 4, 2) := by decide +kernel
theorem dX12_lodgings_101 : decode cX12_lodgings 101 = .ok (.invokestatic 125, 3) := by decide +kernel
theorem dX12_lodgings_104 : decode cX12_lodgings 104 = .ok (.ifCond .eq 6, 3) := by decide +kernel
theorem dX12_lodgings_107 : decode cX12_lodgings 107 = .ok (.goto 26, 3) := by decide +kernel
theorem dX12_lodgings_110 : decode cX12_lodgings 110 = .ok (.aload_n 0, 1) := by decide +kernel
theorem dX12_lodgings_111 : decode cX12_lodgings 111 = .ok (.getfield 86, 3) := by decide +kernel
theorem dX12_lodgings_114 : decode cX12_lodgings 114 = .ok (.iload_n 3, 1) := by decide +kernel
theorem dX12_lodgings_115 : decode cX12_lodgings 115 = .ok (.iconst 1, 1) := by decide +kernel
theorem dX12_lodgings_116 : decode cX12_lodgings 116 = .ok (.iload 4, 2) := by decide +kernel
theorem dX12_lodgings_118 : decode cX12_lodgings 118 = .ok (.ishl, 1) := by decide +kernel
theorem dX12_lodgings_119 : decode cX12_lodgings 119 = .ok (.ior, 1) := by decide +kernel
theorem dX12_lodgings_120 : decode cX12_lodgings 120 = .ok (.iconst 1, 1) := by decide +kernel
theorem dX12_lodgings_121 : decode cX12_lodgings 121 = .ok (.bastore, 1) := by decide +kernel
theorem dX12_lodgings_122 : decode cX12_lodgings 122 = .ok (.iload_n 1, 1) := by decide +kernel
theorem dX12_lodgings_123 : decode cX12_lodgings 123 = .ok (.iload_n 3, 1) := by decide +kernel
theorem dX12_lodgings_124 : decode cX12_lodgings 124 = .ok (.invokestatic 308, 3) := by decide +kernel
theorem dX12_lodgings_127 : decode cX12_lodgings 127 = .ok (.iconst 1, 1) := by decide +kernel
theorem dX12_lodgings_128 : decode cX12_lodgings 128 = .ok (.iadd, 1) := by decide +kernel
theorem dX12_lodgings_129 : decode cX12_lodgings 129 = .ok (.invokestatic 114, 3) := by decide +kernel
theorem dX12_lodgings_132 : decode cX12_lodgings 132 = .ok (.istore_n 1, 1) := by decide +kernel
theorem dX12_lodgings_133 : decode cX12_lodgings 133 = .ok (.iinc 4 1, 3) := by decide +kernel
theorem dX12_lodgings_136 : decode cX12_lodgings 136 = .ok (.goto (-59), 3) := by decide +kernel
theorem dX12_lodgings_139 : decode cX12_lodgings 139 = .ok (.iinc 3 (-1), 3) := by decide +kernel
theorem dX12_lodgings_142 : decode cX12_lodgings 142 = .ok (.goto (-94), 3) := by decide +kernel
theorem dX12_lodgings_145 : decode cX12_lodgings 145 = .ok (.iinc 2 1, 3) := by decide +kernel
theorem dX12_lodgings_148 : decode cX12_lodgings 148 = .ok (.goto (-110), 3) := by decide +kernel
theorem dX12_lodgings_151 : decode cX12_lodgings 151 = .ok (.iload_n 1, 1) := by decide +kernel
theorem dX12_lodgings_152 : decode cX12_lodgings 152 = .ok (.ireturn, 1) := by decide +kernel
theorem dX12_couples_0 : decode cX12_couples 0 = .ok (.iload_n 1, 1) := by decide +kernel
theorem dX12_couples_1 : decode cX12_couples 1 = .ok (.iconst 1, 1) := by decide +kernel
theorem dX12_couples_2 : decode cX12_couples 2 = .ok (.bipush 99, 2) := by decide +kernel
theorem dX12_couples_4 : decode cX12_couples 4 = .ok (.invokestatic 117, 3) := by decide +kernel
theorem dX12_couples_7 : decode cX12_couples 7 = .ok (.ifCond .ne 5, 3) := by decide +kernel
theorem dX12_couples_10 : decode cX12_couples 10 = .ok (.iconst (-1), 1) := by decide +kernel
theorem dX12_couples_11 : decode cX12_couples 11 = .ok (.ireturn, 1) := by decide +kernel
theorem dX12_couples_12 : decode cX12_couples 12 = .ok (.iconst 0, 1) := by decide +kernel
theorem dX12_couples_13 : decode cX12_couples 13 = .ok (.istore_n 2, 1) := by decide +kernel
theorem dX12_couples_14 : decode cX12_couples 14 = .ok (.iload_n 2, 1) := by decide +kernel
theorem dX12_couples_15 : decode cX12_couples 15 = .ok (.bipush 12, 2) := by decide +kernel
theorem dX12_couples_17 : decode cX12_couples 17 = .ok (.if_icmp .ge 77, 3) := by decide +kernel
theorem dX12_couples_20 : decode cX12_couples 20 = .ok (.aload_n 0, 1) := by decide +kernel
theorem dX12_couples_21 : decode cX12_couples 21 = .ok (.getfield 93, 3) := by decide +kernel
theorem dX12_couples_24 : decode cX12_couples 24 = .ok (.iload_n 2, 1) := by decide +kernel
theorem dX12_couples_25 : decode cX12_couples 25 = .ok (.iconst 0, 1) := by decide +kernel
theorem dX12_couples_26 : decode cX12_couples 26 = .ok (.iastore, 1) := by decide +kernel
theorem dX12_couples_27 : decode cX12_couples 27 = .ok (.iconst 0, 1) := by decide +kernel
theorem dX12_couples_28 : decode cX12_couples 28 = .ok (.istore_n 3, 1) := by decide +kernel
theorem dX12_couples_29 : decode cX12_couples 29 = .ok (.iload_n 3, 1) := by decide +kernel
theorem dX12_couples_30 : decode cX12_couples 30 = .ok (.bipush 12, 2) := by decide +kernel
theorem dX12_couples_32 : decode cX12_couples 32 = .ok (.if_icmp .ge 56, 3) := by decide +kernel
theorem dX12_couples_35 : decode cX12_couples 35 = .ok (.iload_n 2, 1) := by decide +kernel
theorem dX12_couples_36 : decode cX12_couples 36 = .ok (.iload_n 3, 1) := by decide +kernel
theorem dX12_couples_37 : decode cX12_couples 37 = .ok (.if_icmp .eq 45, 3) := by decide +kernel
theorem dX12_couples_40 : decode cX12_couples 40 = .ok (.aload_n 0, 1) := by decide +kernel
theorem dX12_couples_41 : decode cX12_couples 41 = .ok (.iload_n 2, 1) := by decide +kernel
theorem dX12_couples_42 : decode cX12_couples 42 = .ok (.invokevirtual 149, 3) := by decide +kernel
theorem dX12_couples_45 : decode cX12_couples 45 = .ok (.ifCond .eq 37, 3) := by decide +kernel
theorem dX12_couples_48 : decode cX12_couples 48 = .ok (.aload_n 0, 1) := by decide +kernel
theorem dX12_couples_49 : decode cX12_couples 49 = .ok (.iload_n 3, 1) := by decide +kernel
theorem dX12_couples_50 : decode cX12_couples 50 = .ok (.invokevirtual 149, 3) := by decide +kernel
theorem dX12_couples_53 : decode cX12_couples 53 = .ok (.ifCond .eq 29, 3) := by decide +kernel
theorem dX12_couples_56 : decode cX12_couples 56 = .ok (.aload_n 0, 1) := by decide +kernel
theorem dX12_couples_57 : decode cX12_couples 57 = .ok (.iload_n 2, 1) := by decide +kernel
theorem dX12_couples_58 : decode cX12_couples 58 = .ok (.iload_n 3, 1) := by decide +kernel
theorem dX12_couples_59 : decode cX12_couples 59 = .ok (.iload_n 1, 1) := by decide +kernel
theorem dX12_couples_60 : decode cX12_couples 60 = .ok (.invokevirtual 374, 3) := by decide +kernel
theorem dX12_couples_63 : decode cX12_couples 63 = .ok (.ifCond .eq 19, 3) := by decide +kernel
theorem dX12_couples_66 : decode cX12_couples 66 = .ok (.aload_n 0, 1) := by decide +kernel
theorem dX12_couples_67 : decode cX12_couples 67 = .ok (.getfield 93, 3) := by decide +kernel
theorem dX12_couples_70 : decode cX12_couples 70 = .ok (.iload_n 2, 1) := by decide +kernel
theorem dX12_couples_71 : decode cX12_couples 71 = .ok (.aload_n 0, 1) := by decide +kernel
theorem dX12_couples_72 : decode cX12_couples 72 = .ok (.getfield 93, 3) := by decide +kernel
theorem dX12_couples_75 : decode cX12_couples 75 = .ok (.iload_n 2, 1) := by decide +kernel
theorem dX12_couples_76 : decode cX12_couples 76 = .ok (.iaload, 1) := by decide +kernel
theorem dX12_couples_77 : decode cX12_couples 77 = .ok (.iconst 1, 1) := by decide +kernel
theorem dX12_couples_78 : decode cX12_couples 78 = .ok (.iload_n 3, 1) := by decide +kernel
theorem dX12_couples_79 : decode cX12_couples 79 = .ok (.ishl, 1) := by decide +kernel
theorem dX12_couples_80 : decode cX12_couples 80 = .ok (.ior, 1) := by decide +kernel
theorem dX12_couples_81 : decode cX12_couples 81 = .ok (.iastore, 1) := by decide +kernel
theorem dX12_couples_82 : decode cX12_couples 82 = .ok (.iinc 3 1, 3) := by decide +kernel
theorem dX12_couples_85 : decode cX12_couples 85 = .ok (.goto (-56), 3) := by decide +kernel
theorem dX12_couples_88 : decode cX12_couples 88 = .ok (.iinc 2 1, 3) := by decide +kernel
theorem dX12_couples_91 : decode cX12_couples 91 = .ok (.goto (-77), 3) := by decide +kernel
theorem dX12_couples_94 : decode cX12_couples 94 = .ok (.iconst 0, 1) := by decide +kernel
theorem dX12_couples_95 : decode cX12_couples 95 = .ok (.istore_n 2, 1) := by decide +kernel
theorem dX12_couples_96 : decode cX12_couples 96 = .ok (.iload_n 2, 1) := by decide +kernel
theorem dX12_couples_97 : decode cX12_couples 97 = .ok (.sipush 4096, 3) := by decide +kernel
theorem dX12_couples_100 : decode cX12_couples 100 = .ok (.if_icmp .ge 114, 3) := by decide +kernel
theorem dX12_couples_103 : decode cX12_couples 103 = .ok (.aload_n 0, 1) := by decide +kernel
theorem dX12_couples_104 : decode cX12_couples 104 = .ok (.getfield 90, 3) := by decide +kernel
theorem dX12_couples_107 : decode cX12_couples 107 = .ok (.iload_n 2, 1) := by decide +kernel
theorem dX12_couples_108 : decode cX12_couples 108 = .ok (.iconst 0, 1) := by decide +kernel
theorem dX12_couples_109 : decode cX12_couples 109 = .ok (.iastore, 1) := by decide +kernel
theorem dX12_couples_110 : decode cX12_couples 110 = .ok (.iload_n 2, 1) := by decide +kernel
theorem dX12_couples_111 : decode cX12_couples 111 = .ok (.ifCond .ne 6, 3) := by decide +kernel
theorem dX12_couples_114 : decode cX12_couples 114 = .ok (.goto 94, 3) := by decide +kernel
theorem dX12_couples_117 : decode cX12_couples 117 = .ok (.iload_n 2, 1) := by decide +kernel
theorem dX12_couples_118 : decode cX12_couples 118 = .ok (.invokestatic 377, 3) := by decide +kernel
theorem dX12_couples_121 : decode cX12_couples 121 = .ok (.istore_n 3, 1) := by decide +kernel
theorem dX12_couples_122 : decode cX12_couples 122 = .ok (.aload_n 0, 1) := by decide +kernel
theorem dX12_couples_123 : decode cX12_couples 123 = .ok (.getfield 90, 3) := by decide +kernel
theorem dX12_couples_126 : decode cX12_couples 126 = .ok (.iload_n 2, 1) := by decide +kernel
theorem dX12_couples_127 : decode cX12_couples 127 = .ok (.aload_n 0, 1) := by decide +kernel
theorem dX12_couples_128 : decode cX12_couples 128 = .ok (.getfield 90, 3) := by decide +kernel
theorem dX12_couples_131 : decode cX12_couples 131 = .ok (.iload_n 2, 1) := by decide +kernel
theorem dX12_couples_132 : decode cX12_couples 132 = .ok (.iconst 1, 1) := by decide +kernel
theorem dX12_couples_133 : decode cX12_couples 133 = .ok (.iload_n 3, 1) := by decide +kernel
theorem dX12_couples_134 : decode cX12_couples 134 = .ok (.ishl, 1) := by decide +kernel
theorem dX12_couples_135 : decode cX12_couples 135 = .ok (.iconst (-1), 1) := by decide +kernel
theorem dX12_couples_136 : decode cX12_couples 136 = .ok (.ixor, 1) := by decide +kernel
theorem dX12_couples_137 : decode cX12_couples 137 = .ok (.iand, 1) := by decide +kernel
theorem dX12_couples_138 : decode cX12_couples 138 = .ok (.iaload, 1) := by decide +kernel
theorem dX12_couples_139 : decode cX12_couples 139 = .ok (.iastore, 1) := by decide +kernel
theorem dX12_couples_140 : decode cX12_couples 140 = .ok (.iload_n 3, 1) := by decide +kernel
theorem dX12_couples_141 : decode cX12_couples 141 = .ok (.iconst 1, 1) := by decide +kernel
theorem dX12_couples_142 : decode cX12_couples 142 = .ok (.iadd, 1) := by decide +kernel
theorem dX12_couples_143 : decode cX12_couples 143 = .ok (.istore 4, 2) := by decide +kernel
theorem dX12_couples_145 : decode cX12_couples 145 = .ok (.iload 4, 2) := by decide +kernel
theorem dX12_couples_147 : decode cX12_couples 147 = .ok (.bipush 12, 2) := by decide +kernel
theorem dX12_couples_149 : decode cX12_couples 149 = .ok (.if_icmp .ge 59, 3) := by decide +kernel
theorem dX12_couples_152 : decode cX12_couples 152 = .ok (.iload_n 2, 1) := by decide +kernel
theorem dX12_couples_153 : decode cX12_couples 153 = .ok (.aload_n 0, 1) := by decide +kernel
theorem dX12_couples_154 : decode cX12_couples 154 = .ok (.getfield 93, 3) := by decide +kernel
theorem dX12_couples_157 : decode cX12_couples 157 = .ok (.iload_n 3, 1) := by decide +kernel
theorem dX12_couples_158 : decode cX12_couples 158 = .ok (.iaload, 1) := by decide +kernel
theorem dX12_couples_159 : decode cX12_couples 159 = .ok (.iand, 1) := by decide +kernel
theorem dX12_couples_160 : decode cX12_couples 160 = .ok (.iload 4, 2) := by decide +kernel
theorem dX12_couples_162 : decode cX12_couples 162 = .ok (.invokestatic 125, 3) := by decide +kernel
theorem dX12_couples_165 : decode cX12_couples 165 = .ok (.ifCond .eq 37, 3) := by decide +kernel
theorem dX12_couples_168 : decode cX12_couples 168 = .ok (.aload_n 0, 1) := by decide +kernel
theorem dX12_couples_169 : decode cX12_couples 169 = .ok (.getfield 90, 3) := by decide +kernel
theorem dX12_couples_172 : decode cX12_couples 172 = .ok (.iload_n 2, 1) := by decide +kernel
theorem dX12_couples_173 : decode cX12_couples 173 = .ok (.aload_n 0, 1) := by decide +kernel
theorem dX12_couples_174 : decode cX12_couples 174 = .ok (.getfield 90, 3) := by decide +kernel
theorem dX12_couples_177 : decode cX12_couples 177 = .ok (.iload_n 2, 1) := by decide +kernel
theorem dX12_couples_178 : decode cX12_couples 178 = .ok (.iaload, 1) := by decide +kernel
theorem dX12_couples_179 : decode cX12_couples 179 = .ok (.aload_n 0, 1) := by decide +kernel
theorem dX12_couples_180 : decode cX12_couples 180 = .ok (.getfield 90, 3) := by decide +kernel
theorem dX12_couples_183 : decode cX12_couples 183 = .ok (.iload_n 2, 1) := by decide +kernel
theorem dX12_couples_184 : decode cX12_couples 184 = .ok (.iconst 1, 1) := by decide +kernel
theorem dX12_couples_185 : decode cX12_couples 185 = .ok (.iload_n 3, 1) := by decide +kernel
theorem dX12_couples_186 : decode cX12_couples 186 = .ok (.ishl, 1) := by decide +kernel
theorem dX12_couples_187 : decode cX12_couples 187 = .ok (.iconst 1, 1) := by decide +kernel
theorem dX12_couples_188 : decode cX12_couples 188 = .ok (.iload 4, 2) := by decide +kernel
theorem dX12_couples_190 : decode cX12_couples 190 = .ok (.ishl, 1) := by decide +kernel
theorem dX12_couples_191 : decode cX12_couples 191 = .ok (.ior, 1) := by decide +kernel
theorem dX12_couples_192 : decode cX12_couples 192 = .ok (.iconst (-1), 1) := by decide +kernel
theorem dX12_couples_193 : decode cX12_couples 193 = .ok (.ixor, 1) := by decide +kernel
theorem dX12_couples_194 : decode cX12_couples 194 = .ok (.iand, 1) := by decide +kernel
theorem dX12_couples_195 : decode cX12_couples 195 = .ok (.iaload, 1) := by decide +kernel
theorem dX12_couples_196 : decode cX12_couples 196 = .ok (.iconst 1, 1) := by decide +kernel
theorem dX12_couples_197 : decode cX12_couples 197 = .ok (.iadd, 1) := by decide +kernel
theorem dX12_couples_198 : decode cX12_couples 198 = .ok (.invokestatic 114, 3) := by decide +kernel
theorem dX12_couples_201 : decode cX12_couples 201 = .ok (.iastore, 1) := by decide +kernel
theorem dX12_couples_202 : decode cX12_couples 202 = .ok (.iinc 4 1, 3) := by decide +kernel
theorem dX12_couples_205 : decode cX12_couples 205 = .ok (.goto (-60), 3) := by decide +kernel
theorem dX12_couples_208 : decode cX12_couples 208 = .ok (.iinc 2 1, 3) := by decide +kernel
theorem dX12_couples_211 : decode cX12_couples 211 = .ok (.goto (-115), 3) := by decide +kernel
theorem dX12_couples_214 : decode cX12_couples 214 = .ok (.aload_n 0, 1) := by decide +kernel
theorem dX12_couples_215 : decode cX12_couples 215 = .ok (.getfield 90, 3) := by decide +kernel
theorem dX12_couples_218 : decode cX12_couples 218 = .ok (.sipush 4095, 3) := by decide +kernel
theorem dX12_couples_221 : decode cX12_couples 221 = .ok (.iaload, 1) := by decide +kernel
theorem dX12_couples_222 : decode cX12_couples 222 = .ok (.ireturn, 1) := by decide +kernel
theorem dX12_lowest_0 : decode cX12_lowest 0 = .ok (.iconst 0, 1) := by decide +kernel
theorem dX12_lowest_1 : decode cX12_lowest 1 = .ok (.istore_n 1, 1) := by decide +kernel
theorem dX12_lowest_2 : decode cX12_lowest 2 = .ok (.iload_n 0, 1) := by decide +kernel
theorem dX12_lowest_3 : decode cX12_lowest 3 = .ok (.iload_n 1, 1) := by decide +kernel
theorem dX12_lowest_4 : decode cX12_lowest 4 = .ok (.invokestatic 125, 3) := by decide +kernel
theorem dX12_lowest_7 : decode cX12_lowest 7 = .ok (.ifCond .ne 10, 3) := by decide +kernel
theorem dX12_lowest_10 : decode cX12_lowest 10 = .ok (.iload_n 1, 1) := by decide +kernel
theorem dX12_lowest_11 : decode cX12_lowest 11 = .ok (.iconst 1, 1) := by decide +kernel
theorem dX12_lowest_12 : decode cX12_lowest 12 = .ok (.iadd, 1) := by decide +kernel
theorem dX12_lowest_13 : decode cX12_lowest 13 = .ok (.istore_n 1, 1) := by decide +kernel
theorem dX12_lowest_14 : decode cX12_lowest 14 = .ok (.goto (-12), 3) := by decide +kernel
theorem dX12_lowest_17 : decode cX12_lowest 17 = .ok (.iload_n 1, 1) := by decide +kernel
theorem dX12_lowest_18 : decode cX12_lowest 18 = .ok (.ireturn, 1) := by decide +kernel
theorem dX12_firstWith_0 : decode cX12_firstWith 0 = .ok (.iconst 0, 1) := by decide +kernel
theorem dX12_firstWith_1 : decode cX12_firstWith 1 = .ok (.istore_n 2, 1) := by decide +kernel
theorem dX12_firstWith_2 : decode cX12_firstWith 2 = .ok (.iconst 0, 1) := by decide +kernel
theorem dX12_firstWith_3 : decode cX12_firstWith 3 = .ok (.istore_n 3, 1) := by decide +kernel
theorem dX12_firstWith_4 : decode cX12_firstWith 4 = .ok (.iload_n 3, 1) := by decide +kernel
theorem dX12_firstWith_5 : decode cX12_firstWith 5 = .ok (.bipush 12, 2) := by decide +kernel
theorem dX12_firstWith_7 : decode cX12_firstWith 7 = .ok (.if_icmp .ge 32, 3) := by decide +kernel
theorem dX12_firstWith_10 : decode cX12_firstWith 10 = .ok (.aload_n 0, 1) := by decide +kernel
theorem dX12_firstWith_11 : decode cX12_firstWith 11 = .ok (.iload_n 3, 1) := by decide +kernel
theorem dX12_firstWith_12 : decode cX12_firstWith 12 = .ok (.invokevirtual 149, 3) := by decide +kernel
theorem dX12_firstWith_15 : decode cX12_firstWith 15 = .ok (.ifCond .eq 18, 3) := by decide +kernel
theorem dX12_firstWith_18 : decode cX12_firstWith 18 = .ok (.aload_n 0, 1) := by decide +kernel
theorem dX12_firstWith_19 : decode cX12_firstWith 19 = .ok (.iload_n 3, 1) := by decide +kernel
theorem dX12_firstWith_20 : decode cX12_firstWith 20 = .ok (.invokevirtual 139, 3) := by decide +kernel
theorem dX12_firstWith_23 : decode cX12_firstWith 23 = .ok (.iload_n 1, 1) := by decide +kernel
theorem dX12_firstWith_24 : decode cX12_firstWith 24 = .ok (.if_icmp .ne 9, 3) := by decide +kernel
theorem dX12_firstWith_27 : decode cX12_firstWith 27 = .ok (.iload_n 2, 1) := by decide +kernel
theorem dX12_firstWith_28 : decode cX12_firstWith 28 = .ok (.iconst 1, 1) := by decide +kernel
theorem dX12_firstWith_29 : decode cX12_firstWith 29 = .ok (.iload_n 3, 1) := by decide +kernel
theorem dX12_firstWith_30 : decode cX12_firstWith 30 = .ok (.ishl, 1) := by decide +kernel
theorem dX12_firstWith_31 : decode cX12_firstWith 31 = .ok (.ior, 1) := by decide +kernel
theorem dX12_firstWith_32 : decode cX12_firstWith 32 = .ok (.istore_n 2, 1) := by decide +kernel
theorem dX12_firstWith_33 : decode cX12_firstWith 33 = .ok (.iinc 3 1, 3) := by decide +kernel
theorem dX12_firstWith_36 : decode cX12_firstWith 36 = .ok (.goto (-32), 3) := by decide +kernel
theorem dX12_firstWith_39 : decode cX12_firstWith 39 = .ok (.iload_n 2, 1) := by decide +kernel
theorem dX12_firstWith_40 : decode cX12_firstWith 40 = .ok (.ireturn, 1) := by decide +kernel
theorem dX12_fashion_0 : decode cX12_fashion 0 = .ok (.iload_n 1, 1) := by decide +kernel
theorem dX12_fashion_1 : decode cX12_fashion 1 = .ok (.iconst 0, 1) := by decide +kernel
theorem dX12_fashion_2 : decode cX12_fashion 2 = .ok (.bipush 15, 2) := by decide +kernel
theorem dX12_fashion_4 : decode cX12_fashion 4 = .ok (.invokestatic 117, 3) := by decide +kernel
theorem dX12_fashion_7 : decode cX12_fashion 7 = .ok (.ifCond .eq 22, 3) := by decide +kernel
theorem dX12_fashion_10 : decode cX12_fashion 10 = .ok (.iload_n 2, 1) := by decide +kernel
theorem dX12_fashion_11 : decode cX12_fashion 11 = .ok (.iconst 1, 1) := by decide +kernel
theorem dX12_fashion_12 : decode cX12_fashion 12 = .ok (.bipush 11, 2) := by decide +kernel
theorem dX12_fashion_14 : decode cX12_fashion 14 = .ok (.invokestatic 117, 3) := by decide +kernel
theorem dX12_fashion_17 : decode cX12_fashion 17 = .ok (.ifCond .eq 12, 3) := by decide +kernel
theorem dX12_fashion_20 : decode cX12_fashion 20 = .ok (.iload_n 3, 1) := by decide +kernel
theorem dX12_fashion_21 : decode cX12_fashion 21 = .ok (.iconst 0, 1) := by decide +kernel
theorem dX12_fashion_22 : decode cX12_fashion 22 = .ok (.iconst 1, 1) := by decide +kernel
theorem dX12_fashion_23 : decode cX12_fashion 23 = .ok (.invokestatic 117, 3) := by decide +kernel
theorem dX12_fashion_26 : decode cX12_fashion 26 = .ok (.ifCond .ne 5, 3) := by decide +kernel
theorem dX12_fashion_29 : decode cX12_fashion 29 = .ok (.iconst (-1), 1) := by decide +kernel
theorem dX12_fashion_30 : decode cX12_fashion 30 = .ok (.ireturn, 1) := by decide +kernel
theorem dX12_fashion_31 : decode cX12_fashion 31 = .ok (.aload_n 0, 1) := by decide +kernel
theorem dX12_fashion_32 : decode cX12_fashion 32 = .ok (.iload_n 1, 1) := by decide +kernel
theorem dX12_fashion_33 : decode cX12_fashion 33 = .ok (.invokevirtual 380, 3) := by decide +kernel
theorem dX12_fashion_36 : decode cX12_fashion 36 = .ok (.istore 4, 2) := by decide +kernel
theorem dX12_fashion_38 : decode cX12_fashion 38 = .ok (.iconst (-1), 1) := by decide +kernel
theorem dX12_fashion_39 : decode cX12_fashion 39 = .ok (.istore 5, 2) := by decide +kernel
theorem dX12_fashion_41 : decode cX12_fashion 41 = .ok (.iconst (-1), 1) := by decide +kernel
theorem dX12_fashion_42 : decode cX12_fashion 42 = .ok (.istore 6, 2) := by decide +kernel
theorem dX12_fashion_44 : decode cX12_fashion 44 = .ok (.iload 4, 2) := by decide +kernel
theorem dX12_fashion_46 : decode cX12_fashion 46 = .ok (.iload 5, 2) := by decide +kernel
theorem dX12_fashion_48 : decode cX12_fashion 48 = .ok (.if_icmp .eq 67, 3) := by decide +kernel
theorem dX12_fashion_51 : decode cX12_fashion 51 = .ok (.iload 4, 2) := by decide +kernel
theorem dX12_fashion_53 : decode cX12_fashion 53 = .ok (.istore 5, 2) := by decide +kernel
theorem dX12_fashion_55 : decode cX12_fashion 55 = .ok (.iload 6, 2) := by decide +kernel
theorem dX12_fashion_57 : decode cX12_fashion 57 = .ok (.iconst 1, 1) := by decide +kernel
theorem dX12_fashion_58 : decode cX12_fashion 58 = .ok (.iadd, 1) := by decide +kernel
theorem dX12_fashion_59 : decode cX12_fashion 59 = .ok (.istore 6, 2) := by decide +kernel
theorem dX12_fashion_61 : decode cX12_fashion 61 = .ok (.iconst 0, 1) := by decide +kernel
theorem dX12_fashion_62 : decode cX12_fashion 62 = .ok (.istore 7, 2) := by decide +kernel
theorem dX12_fashion_64 : decode cX12_fashion 64 = .ok (.iload 7, 2) := by decide +kernel
theorem dX12_fashion_66 : decode cX12_fashion 66 = .ok (.bipush 12, 2) := by decide +kernel
theorem dX12_fashion_68 : decode cX12_fashion 68 = .ok (.if_icmp .ge 44, 3) := by decide +kernel
theorem dX12_fashion_71 : decode cX12_fashion 71 = .ok (.aload_n 0, 1) := by decide +kernel
theorem dX12_fashion_72 : decode cX12_fashion 72 = .ok (.iload 7, 2) := by decide +kernel
theorem dX12_fashion_74 : decode cX12_fashion 74 = .ok (.invokevirtual 149, 3) := by decide +kernel
theorem dX12_fashion_77 : decode cX12_fashion 77 = .ok (.ifCond .eq 29, 3) := by decide +kernel
theorem dX12_fashion_80 : decode cX12_fashion 80 = .ok (.aload_n 0, 1) := by decide +kernel
theorem dX12_fashion_81 : decode cX12_fashion 81 = .ok (.getfield 19, 3) := by decide +kernel
theorem dX12_fashion_84 : decode cX12_fashion 84 = .ok (.iload 7, 2) := by decide +kernel
theorem dX12_fashion_86 : decode cX12_fashion 86 = .ok (.iaload, 1) := by decide +kernel
theorem dX12_fashion_87 : decode cX12_fashion 87 = .ok (.iload 5, 2) := by decide +kernel
theorem dX12_fashion_89 : decode cX12_fashion 89 = .ok (.iand, 1) := by decide +kernel
theorem dX12_fashion_90 : decode cX12_fashion 90 = .ok (.invokestatic 308, 3) := by decide +kernel
theorem dX12_fashion_93 : decode cX12_fashion 93 = .ok (.iload_n 2, 1) := by decide +kernel
theorem dX12_fashion_94 : decode cX12_fashion 94 = .ok (.if_icmp .lt 12, 3) := by decide +kernel
theorem dX12_fashion_97 : decode cX12_fashion 97 = .ok (.iload 4, 2) := by decide +kernel
theorem dX12_fashion_99 : decode cX12_fashion 99 = .ok (.iconst 1, 1) := by decide +kernel
theorem dX12_fashion_100 : decode cX12_fashion 100 = .ok (.iload 7, 2) := by decide +kernel
theorem dX12_fashion_102 : decode cX12_fashion 102 = .ok (.ishl, 1) := by decide +kernel
theorem dX12_fashion_103 : decode cX12_fashion 103 = .ok (.ior, 1) := by decide +kernel
theorem dX12_fashion_104 : decode cX12_fashion 104 = .ok (.istore 4, 2) := by decide +kernel
theorem dX12_fashion_106 : decode cX12_fashion 106 = .ok (.iinc 7 1, 3) := by decide +kernel
theorem dX12_fashion_109 : decode cX12_fashion 109 = .ok (.goto (-45), 3) := by decide +kernel
theorem dX12_fashion_112 : decode cX12_fashion 112 = .ok (.goto (-68), 3) := by decide +kernel
theorem dX12_fashion_115 : decode cX12_fashion 115 = .ok (.iload_n 3, 1) := by decide +kernel
theorem dX12_fashion_116 : decode cX12_fashion 116 = .ok (.ifCond .ne 8, 3) := by decide +kernel
theorem dX12_fashion_119 : decode cX12_fashion 119 = .ok (.iload 4, 2) := by decide +kernel
theorem dX12_fashion_121 : decode cX12_fashion 121 = .ok (.goto 5, 3) := by decide +kernel
theorem dX12_fashion_124 : decode cX12_fashion 124 = .ok (.iload 6, 2) := by decide +kernel
theorem dX12_fashion_126 : decode cX12_fashion 126 = .ok (.ireturn, 1) := by decide +kernel
theorem dX12_fears_0 : decode cX12_fears 0 = .ok (.iload_n 1, 1) := by decide +kernel
theorem dX12_fears_1 : decode cX12_fears 1 = .ok (.iconst 0, 1) := by decide +kernel
theorem dX12_fears_2 : decode cX12_fears 2 = .ok (.iconst 1, 1) := by decide +kernel
theorem dX12_fears_3 : decode cX12_fears 3 = .ok (.invokestatic 117, 3) := by decide +kernel
theorem dX12_fears_6 : decode cX12_fears 6 = .ok (.ifCond .ne 5, 3) := by decide +kernel
theorem dX12_fears_9 : decode cX12_fears 9 = .ok (.iconst (-1), 1) := by decide +kernel
theorem dX12_fears_10 : decode cX12_fears 10 = .ok (.ireturn, 1) := by decide +kernel
theorem dX12_fears_11 : decode cX12_fears 11 = .ok (.ldc_w 261, 3) := by decide +kernel
theorem dX12_fears_14 : decode cX12_fears 14 = .ok (.istore_n 2, 1) := by decide +kernel
theorem dX12_fears_15 : decode cX12_fears 15 = .ok (.iconst 0, 1) := by decide +kernel
theorem dX12_fears_16 : decode cX12_fears 16 = .ok (.istore_n 3, 1) := by decide +kernel
theorem dX12_fears_17 : decode cX12_fears 17 = .ok (.iload_n 3, 1) := by decide +kernel
theorem dX12_fears_18 : decode cX12_fears 18 = .ok (.bipush 12, 2) := by decide +kernel
theorem dX12_fears_20 : decode cX12_fears 20 = .ok (.if_icmp .ge 64, 3) := by decide +kernel
theorem dX12_fears_23 : decode cX12_fears 23 = .ok (.iconst 0, 1) := by decide +kernel
theorem dX12_fears_24 : decode cX12_fears 24 = .ok (.istore 4, 2) := by decide +kernel
theorem dX12_fears_26 : decode cX12_fears 26 = .ok (.iload 4, 2) := by decide +kernel
theorem dX12_fears_28 : decode cX12_fears 28 = .ok (.bipush 16, 2) := by decide +kernel
theorem dX12_fears_30 : decode cX12_fears 30 = .ok (.if_icmp .ge 48, 3) := by decide +kernel
theorem dX12_fears_33 : decode cX12_fears 33 = .ok (.aload_n 0, 1) := by decide +kernel
theorem dX12_fears_34 : decode cX12_fears 34 = .ok (.iload_n 3, 1) := by decide +kernel
theorem dX12_fears_35 : decode cX12_fears 35 = .ok (.invokevirtual 149, 3) := by decide +kernel
theorem dX12_fears_38 : decode cX12_fears 38 = .ok (.ifCond .eq 40, 3) := by decide +kernel
theorem dX12_fears_41 : decode cX12_fears 41 = .ok (.aload_n 0, 1) := by decide +kernel
theorem dX12_fears_42 : decode cX12_fears 42 = .ok (.iload_n 3, 1) := by decide +kernel
theorem dX12_fears_43 : decode cX12_fears 43 = .ok (.iload 4, 2) := by decide +kernel
theorem dX12_fears_45 : decode cX12_fears 45 = .ok (.invokevirtual 132, 3) := by decide +kernel
theorem dX12_fears_48 : decode cX12_fears 48 = .ok (.ifCond .ne 11, 3) := by decide +kernel
theorem dX12_fears_51 : decode cX12_fears 51 = .ok (.iload_n 1, 1) := by decide +kernel
theorem dX12_fears_52 : decode cX12_fears 52 = .ok (.iconst 1, 1) := by decide +kernel
theorem dX12_fears_53 : decode cX12_fears 53 = .ok (.if_icmp .ne 19, 3) := by decide +kernel
theorem dX12_fears_56 : decode cX12_fears 56 = .ok (.goto 7, 3) := by decide +kernel
theorem dX12_fears_59 : decode cX12_fears 59 = .ok (.iload_n 1, 1) := by decide +kernel
theorem dX12_fears_60 : decode cX12_fears 60 = .ok (.ifCond .ne 12, 3) := by decide +kernel
theorem dX12_fears_63 : decode cX12_fears 63 = .ok (.iload_n 2, 1) := by decide +kernel
theorem dX12_fears_64 : decode cX12_fears 64 = .ok (.iconst 1, 1) := by decide +kernel
theorem dX12_fears_65 : decode cX12_fears 65 = .ok (.iload 4, 2) := by decide +kernel
theorem dX12_fears_67 : decode cX12_fears 67 = .ok (.ishl, 1) := by decide +kernel
theorem dX12_fears_68 : decode cX12_fears 68 = .ok (.iconst (-1), 1) := by decide +kernel
theorem dX12_fears_69 : decode cX12_fears 69 = .ok (.ixor, 1) := by decide +kernel
theorem dX12_fears_70 : decode cX12_fears 70 = .ok (.iand, 1) := by decide +kernel
theorem dX12_fears_71 : decode cX12_fears 71 = .ok (.istore_n 2, 1) := by decide +kernel
theorem dX12_fears_72 : decode cX12_fears 72 = .ok (.iinc 4 1, 3) := by decide +kernel
theorem dX12_fears_75 : decode cX12_fears 75 = .ok (.goto (-49), 3) := by decide +kernel
theorem dX12_fears_78 : decode cX12_fears 78 = .ok (.iinc 3 1, 3) := by decide +kernel
theorem dX12_fears_81 : decode cX12_fears 81 = .ok (.goto (-64), 3) := by decide +kernel
theorem dX12_fears_84 : decode cX12_fears 84 = .ok (.iload_n 2, 1) := by decide +kernel
theorem dX12_fears_85 : decode cX12_fears 85 = .ok (.ireturn, 1) := by decide +kernel
theorem dX12_unlike_0 : decode cX12_unlike 0 = .ok (.aload_n 0, 1) := by decide +kernel
theorem dX12_unlike_1 : decode cX12_unlike 1 = .ok (.iload_n 1, 1) := by decide +kernel
theorem dX12_unlike_2 : decode cX12_unlike 2 = .ok (.invokevirtual 149, 3) := by decide +kernel
theorem dX12_unlike_5 : decode cX12_unlike 5 = .ok (.ifCond .eq 20, 3) := by decide +kernel
theorem dX12_unlike_8 : decode cX12_unlike 8 = .ok (.aload_n 0, 1) := by decide +kernel
theorem dX12_unlike_9 : decode cX12_unlike 9 = .ok (.iload_n 2, 1) := by decide +kernel
theorem dX12_unlike_10 : decode cX12_unlike 10 = .ok (.invokevirtual 149, 3) := by decide +kernel
theorem dX12_unlike_13 : decode cX12_unlike 13 = .ok (.ifCond .eq 12, 3) := by decide +kernel
theorem dX12_unlike_16 : decode cX12_unlike 16 = .ok (.aload_n 0, 1) := by decide +kernel
theorem dX12_unlike_17 : decode cX12_unlike 17 = .ok (.iload_n 1, 1) := by decide +kernel
theorem dX12_unlike_18 : decode cX12_unlike 18 = .ok (.iload_n 2, 1) := by decide +kernel
theorem dX12_unlike_19 : decode cX12_unlike 19 = .ok (.invokevirtual 383, 3) := by decide +kernel
theorem dX12_unlike_22 : decode cX12_unlike 22 = .ok (.goto 4, 3) := by decide +kernel
theorem dX12_unlike_25 : decode cX12_unlike 25 = .ok (.iconst (-1), 1) := by decide +kernel
theorem dX12_unlike_26 : decode cX12_unlike 26 = .ok (.ireturn, 1) := by decide +kernel
theorem dX12_mostLike_0 : decode cX12_mostLike 0 = .ok (.aload_n 0, 1) := by decide +kernel
theorem dX12_mostLike_1 : decode cX12_mostLike 1 = .ok (.iload_n 1, 1) := by decide +kernel
theorem dX12_mostLike_2 : decode cX12_mostLike 2 = .ok (.invokevirtual 149, 3) := by decide +kernel
theorem dX12_mostLike_5 : decode cX12_mostLike 5 = .ok (.ifCond .ne 5, 3) := by decide +kernel
theorem dX12_mostLike_8 : decode cX12_mostLike 8 = .ok (.iconst (-1), 1) := by decide +kernel
theorem dX12_mostLike_9 : decode cX12_mostLike 9 = .ok (.ireturn, 1) := by decide +kernel
theorem dX12_mostLike_10 : decode cX12_mostLike 10 = .ok (.bipush (-2), 2) := by decide +kernel
theorem dX12_mostLike_12 : decode cX12_mostLike 12 = .ok (.istore_n 2, 1) := by decide +kernel
theorem dX12_mostLike_13 : decode cX12_mostLike 13 = .ok (.iconst 0, 1) := by decide +kernel
theorem dX12_mostLike_14 : decode cX12_mostLike 14 = .ok (.istore_n 3, 1) := by decide +kernel
theorem dX12_mostLike_15 : decode cX12_mostLike 15 = .ok (.iload_n 3, 1) := by decide +kernel
theorem dX12_mostLike_16 : decode cX12_mostLike 16 = .ok (.bipush 12, 2) := by decide +kernel
theorem dX12_mostLike_18 : decode cX12_mostLike 18 = .ok (.if_icmp .ge 45, 3) := by decide +kernel
theorem dX12_mostLike_21 : decode cX12_mostLike 21 = .ok (.iload_n 3, 1) := by decide +kernel
theorem dX12_mostLike_22 : decode cX12_mostLike 22 = .ok (.iload_n 1, 1) := by decide +kernel
theorem dX12_mostLike_23 : decode cX12_mostLike 23 = .ok (.if_icmp .eq 34, 3) := by decide +kernel
theorem dX12_mostLike_26 : decode cX12_mostLike 26 = .ok (.aload_n 0, 1) := by decide +kernel
theorem dX12_mostLike_27 : decode cX12_mostLike 27 = .ok (.iload_n 3, 1) := by decide +kernel
theorem dX12_mostLike_28 : decode cX12_mostLike 28 = .ok (.invokevirtual 149, 3) := by decide +kernel
theorem dX12_mostLike_31 : decode cX12_mostLike 31 = .ok (.ifCond .eq 26, 3) := by decide +kernel
theorem dX12_mostLike_34 : decode cX12_mostLike 34 = .ok (.iload_n 2, 1) := by decide +kernel
theorem dX12_mostLike_35 : decode cX12_mostLike 35 = .ok (.bipush (-2), 2) := by decide +kernel
theorem dX12_mostLike_37 : decode cX12_mostLike 37 = .ok (.if_icmp .eq 18, 3) := by decide +kernel
theorem dX12_mostLike_40 : decode cX12_mostLike 40 = .ok (.aload_n 0, 1) := by decide +kernel
theorem dX12_mostLike_41 : decode cX12_mostLike 41 = .ok (.iload_n 1, 1) := by decide +kernel
theorem dX12_mostLike_42 : decode cX12_mostLike 42 = .ok (.iload_n 3, 1) := by decide +kernel
theorem dX12_mostLike_43 : decode cX12_mostLike 43 = .ok (.invokevirtual 383, 3) := by decide +kernel
theorem dX12_mostLike_46 : decode cX12_mostLike 46 = .ok (.aload_n 0, 1) := by decide +kernel
theorem dX12_mostLike_47 : decode cX12_mostLike 47 = .ok (.iload_n 1, 1) := by decide +kernel
theorem dX12_mostLike_48 : decode cX12_mostLike 48 = .ok (.iload_n 2, 1) := by decide +kernel
theorem dX12_mostLike_49 : decode cX12_mostLike 49 = .ok (.invokevirtual 383, 3) := by decide +kernel
theorem dX12_mostLike_52 : decode cX12_mostLike 52 = .ok (.if_icmp .ge 5, 3) := by decide +kernel
theorem dX12_mostLike_55 : decode cX12_mostLike 55 = .ok (.iload_n 3, 1) := by decide +kernel
theorem dX12_mostLike_56 : decode cX12_mostLike 56 = .ok (.istore_n 2, 1) := by decide +kernel
theorem dX12_mostLike_57 : decode cX12_mostLike 57 = .ok (.iinc 3 1, 3) := by decide +kernel
theorem dX12_mostLike_60 : decode cX12_mostLike 60 = .ok (.goto (-45), 3) := by decide +kernel
theorem dX12_mostLike_63 : decode cX12_mostLike 63 = .ok (.iload_n 2, 1) := by decide +kernel
theorem dX12_mostLike_64 : decode cX12_mostLike 64 = .ok (.ireturn, 1) := by decide +kernel
theorem dX12_circles_0 : decode cX12_circles 0 = .ok (.iload_n 1, 1) := by decide +kernel
theorem dX12_circles_1 : decode cX12_circles 1 = .ok (.iconst 0, 1) := by decide +kernel
theorem dX12_circles_2 : decode cX12_circles 2 = .ok (.sipush 1584, 3) := by decide +kernel
theorem dX12_circles_5 : decode cX12_circles 5 = .ok (.invokestatic 117, 3) := by decide +kernel
theorem dX12_circles_8 : decode cX12_circles 8 = .ok (.ifCond .eq 17, 3) := by decide +kernel
theorem dX12_circles_11 : decode cX12_circles 11 = .ok (.iload_n 2, 1) := by decide +kernel
theorem dX12_circles_12 : decode cX12_circles 12 = .ok (.bipush 100, 2) := by decide +kernel
theorem dX12_circles_14 : decode cX12_circles 14 = .ok (.if_icmp .eq 13, 3) := by decide +kernel
theorem dX12_circles_17 : decode cX12_circles 17 = .ok (.aload_n 0, 1) := by decide +kernel
theorem dX12_circles_18 : decode cX12_circles 18 = .ok (.iload_n 2, 1) := by decide +kernel
theorem dX12_circles_19 : decode cX12_circles 19 = .ok (.invokevirtual 149, 3) := by decide +kernel
theorem dX12_circles_22 : decode cX12_circles 22 = .ok (.ifCond .ne 5, 3) := by decide +kernel
theorem dX12_circles_25 : decode cX12_circles 25 = .ok (.iconst (-1), 1) := by decide +kernel
theorem dX12_circles_26 : decode cX12_circles 26 = .ok (.ireturn, 1) := by decide +kernel
theorem dX12_circles_27 : decode cX12_circles 27 = .ok (.iload_n 2, 1) := by decide +kernel
theorem dX12_circles_28 : decode cX12_circles 28 = .ok (.bipush 100, 2) := by decide +kernel
theorem dX12_circles_30 : decode cX12_circles 30 = .ok (.if_icmp .eq 10, 3) := by decide +kernel
theorem dX12_circles_33 : decode cX12_circles 33 = .ok (.aload_n 0, 1) := by decide +kernel
theorem dX12_circles_34 : decode cX12_circles 34 = .ok (.iload_n 2, 1) := by decide +kernel
theorem dX12_circles_35 : decode cX12_circles 35 = .ok (.iload_n 1, 1) := by decide +kernel
theorem dX12_circles_36 : decode cX12_circles 36 = .ok (.invokevirtual 386, 3) := by decide +kernel
theorem dX12_circles_39 : decode cX12_circles 39 = .ok (.ireturn, 1) := by decide +kernel
theorem dX12_circles_40 : decode cX12_circles 40 = .ok (.iconst 0, 1) := by decide +kernel
theorem dX12_circles_41 : decode cX12_circles 41 = .ok (.istore_n 3, 1) := by decide +kernel
theorem dX12_circles_42 : decode cX12_circles 42 = .ok (.iconst 0, 1) := by decide +kernel
theorem dX12_circles_43 : decode cX12_circles 43 = .ok (.istore 4, 2) := by decide +kernel
theorem dX12_circles_45 : decode cX12_circles 45 = .ok (.iconst 0, 1) := by decide +kernel
theorem dX12_circles_46 : decode cX12_circles 46 = .ok (.istore 5, 2) := by decide +kernel
theorem dX12_circles_48 : decode cX12_circles 48 = .ok (.iload 5, 2) := by decide +kernel
theorem dX12_circles_50 : decode cX12_circles 50 = .ok (.bipush 12, 2) := by decide +kernel
theorem dX12_circles_52 : decode cX12_circles 52 = .ok (.if_icmp .ge 47, 3) := by decide +kernel
theorem dX12_circles_55 : decode cX12_circles 55 = .ok (.aload_n 0, 1) := by decide +kernel
theorem dX12_circles_56 : decode cX12_circles 56 = .ok (.iload 5, 2) := by decide +kernel
theorem dX12_circles_58 : decode cX12_circles 58 = .ok (.invokevirtual 149, 3) := by decide +kernel
theorem dX12_circles_61 : decode cX12_circles 61 = .ok (.ifCond .eq 32, 3) := by decide +kernel
theorem dX12_circles_64 : decode cX12_circles 64 = .ok (.iload 4, 2) := by decide +kernel
theorem dX12_circles_66 : decode cX12_circles 66 = .ok (.iload 5, 2) := by decide +kernel
theorem dX12_circles_68 : decode cX12_circles 68 = .ok (.invokestatic 125, 3) := by decide +kernel
theorem dX12_circles_71 : decode cX12_circles 71 = .ok (.ifCond .eq 6, 3) := by decide +kernel
theorem dX12_circles_74 : decode cX12_circles 74 = .ok (.goto 19, 3) := by decide +kernel
theorem dX12_circles_77 : decode cX12_circles 77 = .ok (.iload 4, 2) := by decide +kernel
theorem dX12_circles_79 : decode cX12_circles 79 = .ok (.aload_n 0, 1) := by decide +kernel
theorem dX12_circles_80 : decode cX12_circles 80 = .ok (.iload 5, 2) := by decide +kernel
theorem dX12_circles_82 : decode cX12_circles 82 = .ok (.iload_n 1, 1) := by decide +kernel
theorem dX12_circles_83 : decode cX12_circles 83 = .ok (.invokevirtual 386, 3) := by decide +kernel
theorem dX12_circles_86 : decode cX12_circles 86 = .ok (.ior, 1) := by decide +kernel
theorem dX12_circles_87 : decode cX12_circles 87 = .ok (.istore 4, 2) := by decide +kernel
theorem dX12_circles_89 : decode cX12_circles 89 = .ok (.iload_n 3, 1) := by decide +kernel
theorem dX12_circles_90 : decode cX12_circles 90 = .ok (.iconst 1, 1) := by decide +kernel
theorem dX12_circles_91 : decode cX12_circles 91 = .ok (.iadd, 1) := by decide +kernel
theorem dX12_circles_92 : decode cX12_circles 92 = .ok (.istore_n 3, 1) := by decide +kernel
theorem dX12_circles_93 : decode cX12_circles 93 = .ok (.iinc 5 1, 3) := by decide +kernel
theorem dX12_circles_96 : decode cX12_circles 96 = .ok (.goto (-48), 3) := by decide +kernel
theorem dX12_circles_99 : decode cX12_circles 99 = .ok (.iload_n 3, 1) := by decide +kernel
theorem dX12_circles_100 : decode cX12_circles 100 = .ok (.ireturn, 1) := by decide +kernel
theorem dX12_keystones_0 : decode cX12_keystones 0 = .ok (.iconst 0, 1) := by decide +kernel
theorem dX12_keystones_1 : decode cX12_keystones 1 = .ok (.istore_n 1, 1) := by decide +kernel
theorem dX12_keystones_2 : decode cX12_keystones 2 = .ok (.iconst 0, 1) := by decide +kernel
theorem dX12_keystones_3 : decode cX12_keystones 3 = .ok (.istore_n 2, 1) := by decide +kernel
theorem dX12_keystones_4 : decode cX12_keystones 4 = .ok (.iload_n 2, 1) := by decide +kernel
theorem dX12_keystones_5 : decode cX12_keystones 5 = .ok (.bipush 12, 2) := by decide +kernel
theorem dX12_keystones_7 : decode cX12_keystones 7 = .ok (.if_icmp .ge 31, 3) := by decide +kernel
theorem dX12_keystones_10 : decode cX12_keystones 10 = .ok (.aload_n 0, 1) := by decide +kernel
theorem dX12_keystones_11 : decode cX12_keystones 11 = .ok (.iload_n 2, 1) := by decide +kernel
theorem dX12_keystones_12 : decode cX12_keystones 12 = .ok (.invokevirtual 149, 3) := by decide +kernel
theorem dX12_keystones_15 : decode cX12_keystones 15 = .ok (.ifCond .eq 17, 3) := by decide +kernel
theorem dX12_keystones_18 : decode cX12_keystones 18 = .ok (.aload_n 0, 1) := by decide +kernel
theorem dX12_keystones_19 : decode cX12_keystones 19 = .ok (.iload_n 2, 1) := by decide +kernel
theorem dX12_keystones_20 : decode cX12_keystones 20 = .ok (.invokevirtual 392, 3) := by decide +kernel
theorem dX12_keystones_23 : decode cX12_keystones 23 = .ok (.ifCond .eq 9, 3) := by decide +kernel
theorem dX12_keystones_26 : decode cX12_keystones 26 = .ok (.iload_n 1, 1) := by decide +kernel
theorem dX12_keystones_27 : decode cX12_keystones 27 = .ok (.iconst 1, 1) := by decide +kernel
theorem dX12_keystones_28 : decode cX12_keystones 28 = .ok (.iload_n 2, 1) := by decide +kernel
theorem dX12_keystones_29 : decode cX12_keystones 29 = .ok (.ishl, 1) := by decide +kernel
theorem dX12_keystones_30 : decode cX12_keystones 30 = .ok (.ior, 1) := by decide +kernel
theorem dX12_keystones_31 : decode cX12_keystones 31 = .ok (.istore_n 1, 1) := by decide +kernel
theorem dX12_keystones_32 : decode cX12_keystones 32 = .ok (.iinc 2 1, 3) := by decide +kernel
theorem dX12_keystones_35 : decode cX12_keystones 35 = .ok (.goto (-31), 3) := by decide +kernel
theorem dX12_keystones_38 : decode cX12_keystones 38 = .ok (.iload_n 1, 1) := by decide +kernel
theorem dX12_keystones_39 : decode cX12_keystones 39 = .ok (.ireturn, 1) := by decide +kernel
theorem dX12_steps_0 : decode cX12_steps 0 = .ok (.aload_n 0, 1) := by decide +kernel
theorem dX12_steps_1 : decode cX12_steps 1 = .ok (.iload_n 1, 1) := by decide +kernel
theorem dX12_steps_2 : decode cX12_steps 2 = .ok (.invokevirtual 149, 3) := by decide +kernel
theorem dX12_steps_5 : decode cX12_steps 5 = .ok (.ifCond .eq 11, 3) := by decide +kernel
theorem dX12_steps_8 : decode cX12_steps 8 = .ok (.aload_n 0, 1) := by decide +kernel
theorem dX12_steps_9 : decode cX12_steps 9 = .ok (.iload_n 2, 1) := by decide +kernel
theorem dX12_steps_10 : decode cX12_steps 10 = .ok (.invokevirtual 149, 3) := by decide +kernel
theorem dX12_steps_13 : decode cX12_steps 13 = .ok (.ifCond .ne 5, 3) := by decide +kernel
theorem dX12_steps_16 : decode cX12_steps 16 = .ok (.iconst (-1), 1) := by decide +kernel
theorem dX12_steps_17 : decode cX12_steps 17 = .ok (.ireturn, 1) := by decide +kernel
theorem dX12_steps_18 : decode cX12_steps 18 = .ok (.iconst 1, 1) := by decide +kernel
theorem dX12_steps_19 : decode cX12_steps 19 = .ok (.iload_n 1, 1) := by decide +kernel
theorem dX12_steps_20 : decode cX12_steps 20 = .ok (.ishl, 1) := by decide +kernel
theorem dX12_steps_21 : decode cX12_steps 21 = .ok (.istore_n 3, 1) := by decide +kernel
theorem dX12_steps_22 : decode cX12_steps 22 = .ok (.iconst 0, 1) := by decide +kernel
theorem dX12_steps_23 : decode cX12_steps 23 = .ok (.istore 4, 2) := by decide +kernel
theorem dX12_steps_25 : decode cX12_steps 25 = .ok (.iconst 0, 1) := by decide +kernel
theorem dX12_steps_26 : decode cX12_steps 26 = .ok (.istore 5, 2) := by decide +kernel
theorem dX12_steps_28 : decode cX12_steps 28 = .ok (.iload_n 3, 1) := by decide +kernel
theorem dX12_steps_29 : decode cX12_steps 29 = .ok (.iload_n 2, 1) := by decide +kernel
theorem dX12_steps_30 : decode cX12_steps 30 = .ok (.invokestatic 125, 3) := by decide +kernel
theorem dX12_steps_33 : decode cX12_steps 33 = .ok (.ifCond .ne 60, 3) := by decide +kernel
theorem dX12_steps_36 : decode cX12_steps 36 = .ok (.iload_n 3, 1) := by decide +kernel
theorem dX12_steps_37 : decode cX12_steps 37 = .ok (.iload 5, 2) := by decide +kernel
theorem dX12_steps_39 : decode cX12_steps 39 = .ok (.if_icmp .ne 6, 3) := by decide +kernel
theorem dX12_steps_42 : decode cX12_steps 42 = .ok (.bipush (-2), 2) := by decide +kernel
theorem dX12_steps_44 : decode cX12_steps 44 = .ok (.ireturn, 1) := by decide +kernel
theorem dX12_steps_45 : decode cX12_steps 45 = .ok (.iload_n 3, 1) := by decide +kernel
theorem dX12_steps_46 : decode cX12_steps 46 = .ok (.istore 5, 2) := by decide +kernel
theorem dX12_steps_48 : decode cX12_steps 48 = .ok (.iload 4, 2) := by decide +kernel
theorem dX12_steps_50 : decode cX12_steps 50 = .ok (.iconst 1, 1) := by decide +kernel
theorem dX12_steps_51 : decode cX12_steps 51 = .ok (.iadd, 1) := by decide +kernel
theorem dX12_steps_52 : decode cX12_steps 52 = .ok (.istore 4, 2) := by decide +kernel
theorem dX12_steps_54 : decode cX12_steps 54 = .ok (.iconst 0, 1) := by decide +kernel
theorem dX12_steps_55 : decode cX12_steps 55 = .ok (.istore 6, 2) := by decide +kernel
theorem dX12_steps_57 : decode cX12_steps 57 = .ok (.iload 6, 2) := by decide +kernel
theorem dX12_steps_59 : decode cX12_steps 59 = .ok (.bipush 12, 2) := by decide +kernel
theorem dX12_steps_61 : decode cX12_steps 61 = .ok (.if_icmp .ge 29, 3) := by decide +kernel
theorem dX12_steps_64 : decode cX12_steps 64 = .ok (.iload 5, 2) := by decide +kernel
theorem dX12_steps_66 : decode cX12_steps 66 = .ok (.iload 6, 2) := by decide +kernel
theorem dX12_steps_68 : decode cX12_steps 68 = .ok (.invokestatic 125, 3) := by decide +kernel
theorem dX12_steps_71 : decode cX12_steps 71 = .ok (.ifCond .eq 13, 3) := by decide +kernel
theorem dX12_steps_74 : decode cX12_steps 74 = .ok (.iload_n 3, 1) := by decide +kernel
theorem dX12_steps_75 : decode cX12_steps 75 = .ok (.aload_n 0, 1) := by decide +kernel
theorem dX12_steps_76 : decode cX12_steps 76 = .ok (.getfield 19, 3) := by decide +kernel
theorem dX12_steps_79 : decode cX12_steps 79 = .ok (.iload 6, 2) := by decide +kernel
theorem dX12_steps_81 : decode cX12_steps 81 = .ok (.iaload, 1) := by decide +kernel
theorem dX12_steps_82 : decode cX12_steps 82 = .ok (.ior, 1) := by decide +kernel
theorem dX12_steps_83 : decode cX12_steps 83 = .ok (.istore_n 3, 1) := by decide +kernel
theorem dX12_steps_84 : decode cX12_steps 84 = .ok (.iinc 6 1, 3) := by decide +kernel
theorem dX12_steps_87 : decode cX12_steps 87 = .ok (.goto (-30), 3) := by decide +kernel
theorem dX12_steps_90 : decode cX12_steps 90 = .ok (.goto (-62), 3) := by decide +kernel
theorem dX12_steps_93 : decode cX12_steps 93 = .ok (.iload 4, 2) := by decide +kernel
theorem dX12_steps_95 : decode cX12_steps 95 = .ok (.ireturn, 1) := by decide +kernel
theorem dX12_guess_0 : decode cX12_guess 0 = .ok (.iload_n 1, 1) := by decide +kernel
theorem dX12_guess_1 : decode cX12_guess 1 = .ok (.iconst 1, 1) := by decide +kernel
theorem dX12_guess_2 : decode cX12_guess 2 = .ok (.bipush 12, 2) := by decide +kernel
theorem dX12_guess_4 : decode cX12_guess 4 = .ok (.invokestatic 117, 3) := by decide +kernel
theorem dX12_guess_7 : decode cX12_guess 7 = .ok (.ifCond .eq 40, 3) := by decide +kernel
theorem dX12_guess_10 : decode cX12_guess 10 = .ok (.iload_n 2, 1) := by decide +kernel
theorem dX12_guess_11 : decode cX12_guess 11 = .ok (.iconst 0, 1) := by decide +kernel
theorem dX12_guess_12 : decode cX12_guess 12 = .ok (.bipush 15, 2) := by decide +kernel
theorem dX12_guess_14 : decode cX12_guess 14 = .ok (.invokestatic 117, 3) := by decide +kernel
theorem dX12_guess_17 : decode cX12_guess 17 = .ok (.ifCond .ne 20, 3) := by decide +kernel
theorem dX12_guess_20 : decode cX12_guess 20 = .ok (.iload_n 2, 1) := by decide +kernel
theorem dX12_guess_21 : decode cX12_guess 21 = .ok (.bipush 20, 2) := by decide +kernel
theorem dX12_guess_23 : decode cX12_guess 23 = .ok (.bipush 35, 2) := by decide +kernel
theorem dX12_guess_25 : decode cX12_guess 25 = .ok (.invokestatic 117, 3) := by decide +kernel
theorem dX12_guess_28 : decode cX12_guess 28 = .ok (.ifCond .ne 9, 3) := by decide +kernel
theorem dX12_guess_31 : decode cX12_guess 31 = .ok (.iload_n 2, 1) := by decide +kernel
theorem dX12_guess_32 : decode cX12_guess 32 = .ok (.bipush 100, 2) := by decide +kernel
theorem dX12_guess_34 : decode cX12_guess 34 = .ok (.if_icmp .ne 13, 3) := by decide +kernel
theorem dX12_guess_37 : decode cX12_guess 37 = .ok (.iconst 2, 1) := by decide +kernel
theorem dX12_guess_38 : decode cX12_guess 38 = .ok (.iload_n 1, 1) := by decide +kernel
theorem dX12_guess_39 : decode cX12_guess 39 = .ok (.imul, 1) := by decide +kernel
theorem dX12_guess_40 : decode cX12_guess 40 = .ok (.aload_n 0, 1) := by decide +kernel
theorem dX12_guess_41 : decode cX12_guess 41 = .ok (.getfield 152, 3) := by decide +kernel
theorem dX12_guess_44 : decode cX12_guess 44 = .ok (.if_icmp .le 5, 3) := by decide +kernel
theorem dX12_guess_47 : decode cX12_guess 47 = .ok (.iconst (-1), 1) := by decide +kernel
theorem dX12_guess_48 : decode cX12_guess 48 = .ok (.ireturn, 1) := by decide +kernel
theorem dX12_guess_49 : decode cX12_guess 49 = .ok (.aload_n 0, 1) := by decide +kernel
theorem dX12_guess_50 : decode cX12_guess 50 = .ok (.iconst 0, 1) := by decide +kernel
theorem dX12_guess_51 : decode cX12_guess 51 = .ok (.putfield 152, 3) := by decide +kernel
theorem dX12_guess_54 : decode cX12_guess 54 = .ok (.iconst 0, 1) := by decide +kernel
theorem dX12_guess_55 : decode cX12_guess 55 = .ok (.istore_n 3, 1) := by decide +kernel
theorem dX12_guess_56 : decode cX12_guess 56 = .ok (.iload_n 3, 1) := by decide +kernel
theorem dX12_guess_57 : decode cX12_guess 57 = .ok (.iload_n 1, 1) := by decide +kernel
theorem dX12_guess_58 : decode cX12_guess 58 = .ok (.if_icmp .ge 39, 3) := by decide +kernel
theorem dX12_guess_61 : decode cX12_guess 61 = .ok (.aload_n 0, 1) := by decide +kernel
theorem dX12_guess_62 : decode cX12_guess 62 = .ok (.aload_n 0, 1) := by decide +kernel
theorem dX12_guess_63 : decode cX12_guess 63 = .ok (.iconst 2, 1) := by decide +kernel
theorem dX12_guess_64 : decode cX12_guess 64 = .ok (.iload_n 3, 1) := by decide +kernel
theorem dX12_guess_65 : decode cX12_guess 65 = .ok (.imul, 1) := by decide +kernel
theorem dX12_guess_66 : decode cX12_guess 66 = .ok (.invokevirtual 401, 3) := by decide +kernel
theorem dX12_guess_69 : decode cX12_guess 69 = .ok (.invokevirtual 149, 3) := by decide +kernel
theorem dX12_guess_72 : decode cX12_guess 72 = .ok (.ifCond .eq 16, 3) := by decide +kernel
theorem dX12_guess_75 : decode cX12_guess 75 = .ok (.aload_n 0, 1) := by decide +kernel
theorem dX12_guess_76 : decode cX12_guess 76 = .ok (.iconst 2, 1) := by decide +kernel
theorem dX12_guess_77 : decode cX12_guess 77 = .ok (.iload_n 3, 1) := by decide +kernel
theorem dX12_guess_78 : decode cX12_guess 78 = .ok (.imul, 1) := by decide +kernel
theorem dX12_guess_79 : decode cX12_guess 79 = .ok (.iconst 1, 1) := by decide +kernel
theorem dX12_guess_80 : decode cX12_guess 80 = .ok (.iadd, 1) := by decide +kernel
theorem dX12_guess_81 : decode cX12_guess 81 = .ok (.invokevirtual 401, 3) := by decide +kernel
theorem dX12_guess_84 : decode cX12_guess 84 = .ok (.iconst 1, 1) := by decide +kernel
theorem dX12_guess_85 : decode cX12_guess 85 = .ok (.if_icmp .le 6, 3) := by decide +kernel
theorem dX12_guess_88 : decode cX12_guess 88 = .ok (.bipush (-3), 2) := by decide +kernel
theorem dX12_guess_90 : decode cX12_guess 90 = .ok (.ireturn, 1) := by decide +kernel
theorem dX12_guess_91 : decode cX12_guess 91 = .ok (.iinc 3 1, 3) := by decide +kernel
theorem dX12_guess_94 : decode cX12_guess 94 = .ok (.goto (-38), 3) := by decide +kernel
theorem dX12_guess_97 : decode cX12_guess 97 = .ok (.iload_n 2, 1) := by decide +kernel
theorem dX12_guess_98 : decode cX12_guess 98 = .ok (.bipush 100, 2) := by decide +kernel
theorem dX12_guess_100 : decode cX12_guess 100 = .ok (.if_icmp .eq 46, 3) := by decide +kernel
theorem dX12_guess_103 : decode cX12_guess 103 = .ok (.aload_n 0, 1) := by decide +kernel
theorem dX12_guess_104 : decode cX12_guess 104 = .ok (.iload_n 1, 1) := by decide +kernel
theorem dX12_guess_105 : decode cX12_guess 105 = .ok (.iload_n 2, 1) := by decide +kernel
theorem dX12_guess_106 : decode cX12_guess 106 = .ok (.bipush 20, 2) := by decide +kernel
theorem dX12_guess_108 : decode cX12_guess 108 = .ok (.if_icmp .ge 7, 3) := by decide +kernel
theorem dX12_guess_111 : decode cX12_guess 111 = .ok (.iload_n 2, 1) := by decide +kernel
theorem dX12_guess_112 : decode cX12_guess 112 = .ok (.goto 7, 3) := by decide +kernel
theorem dX12_guess_115 : decode cX12_guess 115 = .ok (.iload_n 2, 1) := by decide +kernel
theorem dX12_guess_116 : decode cX12_guess 116 = .ok (.bipush 20, 2) := by decide +kernel
theorem dX12_guess_118 : decode cX12_guess 118 = .ok (.isub, 1) := by decide +kernel
theorem dX12_guess_119 : decode cX12_guess 119 = .ok (.invokevirtual 404, 3) := by decide +kernel
theorem dX12_guess_122 : decode cX12_guess 122 = .ok (.ifCond .ne 6, 3) := by decide +kernel
theorem dX12_guess_125 : decode cX12_guess 125 = .ok (.bipush (-2), 2) := by decide +kernel
theorem dX12_guess_127 : decode cX12_guess 127 = .ok (.ireturn, 1) := by decide +kernel
theorem dX12_guess_128 : decode cX12_guess 128 = .ok (.iload_n 2, 1) := by decide +kernel
theorem dX12_guess_129 : decode cX12_guess 129 = .ok (.bipush 20, 2) := by decide +kernel
theorem dX12_guess_131 : decode cX12_guess 131 = .ok (.if_icmp .ge 10, 3) := by decide +kernel
theorem dX12_guess_134 : decode cX12_guess 134 = .ok (.aload_n 0, 1) := by decide +kernel
theorem dX12_guess_135 : decode cX12_guess 135 = .ok (.getfield 395, 3) := by decide +kernel
theorem dX12_guess_138 : decode cX12_guess 138 = .ok (.goto 7, 3) := by decide +kernel
theorem dX12_guess_141 : decode cX12_guess 141 = .ok (.aload_n 0, 1) := by decide +kernel
theorem dX12_guess_142 : decode cX12_guess 142 = .ok (.getfield 398, 3) := by decide +kernel
theorem dX12_guess_145 : decode cX12_guess 145 = .ok (.ireturn, 1) := by decide +kernel
theorem dX12_guess_146 : decode cX12_guess 146 = .ok (.iconst 0, 1) := by decide +kernel
theorem dX12_guess_147 : decode cX12_guess 147 = .ok (.istore_n 3, 1) := by decide +kernel
theorem dX12_guess_148 : decode cX12_guess 148 = .ok (.iconst 0, 1) := by decide +kernel
theorem dX12_guess_149 : decode cX12_guess 149 = .ok (.istore 4, 2) := by decide +kernel
theorem dX12_guess_151 : decode cX12_guess 151 = .ok (.iload 4, 2) := by decide +kernel
theorem dX12_guess_153 : decode cX12_guess 153 = .ok (.bipush 16, 2) := by decide +kernel
theorem dX12_guess_155 : decode cX12_guess 155 = .ok (.if_icmp .ge 26, 3) := by decide +kernel
theorem dX12_guess_158 : decode cX12_guess 158 = .ok (.aload_n 0, 1) := by decide +kernel
theorem dX12_guess_159 : decode cX12_guess 159 = .ok (.iload_n 1, 1) := by decide +kernel
theorem dX12_guess_160 : decode cX12_guess 160 = .ok (.iload 4, 2) := by decide +kernel
theorem dX12_guess_162 : decode cX12_guess 162 = .ok (.invokevirtual 404, 3) := by decide +kernel
theorem dX12_guess_165 : decode cX12_guess 165 = .ok (.ifCond .eq 10, 3) := by decide +kernel
theorem dX12_guess_168 : decode cX12_guess 168 = .ok (.iload_n 3, 1) := by decide +kernel
theorem dX12_guess_169 : decode cX12_guess 169 = .ok (.iconst 1, 1) := by decide +kernel
theorem dX12_guess_170 : decode cX12_guess 170 = .ok (.iload 4, 2) := by decide +kernel
theorem dX12_guess_172 : decode cX12_guess 172 = .ok (.ishl, 1) := by decide +kernel
theorem dX12_guess_173 : decode cX12_guess 173 = .ok (.ior, 1) := by decide +kernel
theorem dX12_guess_174 : decode cX12_guess 174 = .ok (.istore_n 3, 1) := by decide +kernel
theorem dX12_guess_175 : decode cX12_guess 175 = .ok (.iinc 4 1, 3) := by decide +kernel
theorem dX12_guess_178 : decode cX12_guess 178 = .ok (.goto (-27), 3) := by decide +kernel
theorem dX12_guess_181 : decode cX12_guess 181 = .ok (.iload_n 3, 1) := by decide +kernel
theorem dX12_guess_182 : decode cX12_guess 182 = .ok (.ireturn, 1) := by decide +kernel
theorem dX12_sentNext_0 : decode cX12_sentNext 0 = .ok (.iload_n 1, 1) := by decide +kernel
theorem dX12_sentNext_1 : decode cX12_sentNext 1 = .ok (.iconst 1, 1) := by decide +kernel
theorem dX12_sentNext_2 : decode cX12_sentNext 2 = .ok (.ldc_w 261, 3) := by decide +kernel
theorem dX12_sentNext_5 : decode cX12_sentNext 5 = .ok (.invokestatic 117, 3) := by decide +kernel
theorem dX12_sentNext_8 : decode cX12_sentNext 8 = .ok (.ifCond .eq 12, 3) := by decide +kernel
theorem dX12_sentNext_11 : decode cX12_sentNext 11 = .ok (.iload_n 2, 1) := by decide +kernel
theorem dX12_sentNext_12 : decode cX12_sentNext 12 = .ok (.iconst 0, 1) := by decide +kernel
theorem dX12_sentNext_13 : decode cX12_sentNext 13 = .ok (.iconst 1, 1) := by decide +kernel
theorem dX12_sentNext_14 : decode cX12_sentNext 14 = .ok (.invokestatic 117, 3) := by decide +kernel
theorem dX12_sentNext_17 : decode cX12_sentNext 17 = .ok (.ifCond .ne 5, 3) := by decide +kernel
theorem dX12_sentNext_20 : decode cX12_sentNext 20 = .ok (.iconst (-1), 1) := by decide +kernel
theorem dX12_sentNext_21 : decode cX12_sentNext 21 = .ok (.ireturn, 1) := by decide +kernel
theorem dX12_sentNext_22 : decode cX12_sentNext 22 = .ok (.bipush (-2), 2) := by decide +kernel
theorem dX12_sentNext_24 : decode cX12_sentNext 24 = .ok (.istore_n 3, 1) := by decide +kernel
theorem dX12_sentNext_25 : decode cX12_sentNext 25 = .ok (.iconst 0, 1) := by decide +kernel
theorem dX12_sentNext_26 : decode cX12_sentNext 26 = .ok (.istore 4, 2) := by decide +kernel
theorem dX12_sentNext_28 : decode cX12_sentNext 28 = .ok (.iload 4, 2) := by decide +kernel
theorem dX12_sentNext_30 : decode cX12_sentNext 30 = .ok (.bipush 12, 2) := by decide +kernel
theorem dX12_sentNext_32 : decode cX12_sentNext 32 = .ok (.if_icmp .ge 43, 3) := by decide +kernel
theorem dX12_sentNext_35 : decode cX12_sentNext 35 = .ok (.aload_n 0, 1) := by decide +kernel
theorem dX12_sentNext_36 : decode cX12_sentNext 36 = .ok (.iload 4, 2) := by decide +kernel
theorem dX12_sentNext_38 : decode cX12_sentNext 38 = .ok (.invokevirtual 149, 3) := by decide +kernel
theorem dX12_sentNext_41 : decode cX12_sentNext 41 = .ok (.ifCond .eq 28, 3) := by decide +kernel
theorem dX12_sentNext_44 : decode cX12_sentNext 44 = .ok (.iload_n 3, 1) := by decide +kernel
theorem dX12_sentNext_45 : decode cX12_sentNext 45 = .ok (.bipush (-2), 2) := by decide +kernel
theorem dX12_sentNext_47 : decode cX12_sentNext 47 = .ok (.if_icmp .eq 19, 3) := by decide +kernel
theorem dX12_sentNext_50 : decode cX12_sentNext 50 = .ok (.aload_n 0, 1) := by decide +kernel
theorem dX12_sentNext_51 : decode cX12_sentNext 51 = .ok (.iload 4, 2) := by decide +kernel
theorem dX12_sentNext_53 : decode cX12_sentNext 53 = .ok (.iload_n 1, 1) := by decide +kernel
theorem dX12_sentNext_54 : decode cX12_sentNext 54 = .ok (.invokevirtual 407, 3) := by decide +kernel
theorem dX12_sentNext_57 : decode cX12_sentNext 57 = .ok (.aload_n 0, 1) := by decide +kernel
theorem dX12_sentNext_58 : decode cX12_sentNext 58 = .ok (.iload_n 3, 1) := by decide +kernel
theorem dX12_sentNext_59 : decode cX12_sentNext 59 = .ok (.iload_n 1, 1) := by decide +kernel
theorem dX12_sentNext_60 : decode cX12_sentNext 60 = .ok (.invokevirtual 407, 3) := by decide +kernel
theorem dX12_sentNext_63 : decode cX12_sentNext 63 = .ok (.if_icmp .ge 6, 3) := by decide +kernel
theorem dX12_sentNext_66 : decode cX12_sentNext 66 = .ok (.iload 4, 2) := by decide +kernel
theorem dX12_sentNext_68 : decode cX12_sentNext 68 = .ok (.istore_n 3, 1) := by decide +kernel
theorem dX12_sentNext_69 : decode cX12_sentNext 69 = .ok (.iinc 4 1, 3) := by decide +kernel
theorem dX12_sentNext_72 : decode cX12_sentNext 72 = .ok (.goto (-44), 3) := by decide +kernel
theorem dX12_sentNext_75 : decode cX12_sentNext 75 = .ok (.iload_n 2, 1) := by decide +kernel
theorem dX12_sentNext_76 : decode cX12_sentNext 76 = .ok (.ifCond .eq 9, 3) := by decide +kernel
theorem dX12_sentNext_79 : decode cX12_sentNext 79 = .ok (.iload_n 3, 1) := by decide +kernel
theorem dX12_sentNext_80 : decode cX12_sentNext 80 = .ok (.bipush (-2), 2) := by decide +kernel
theorem dX12_sentNext_82 : decode cX12_sentNext 82 = .ok (.if_icmp .ne 7, 3) := by decide +kernel
theorem dX12_sentNext_85 : decode cX12_sentNext 85 = .ok (.iload_n 3, 1) := by decide +kernel
theorem dX12_sentNext_86 : decode cX12_sentNext 86 = .ok (.goto 9, 3) := by decide +kernel
theorem dX12_sentNext_89 : decode cX12_sentNext 89 = .ok (.aload_n 0, 1) := by decide +kernel
theorem dX12_sentNext_90 : decode cX12_sentNext 90 = .ok (.iload_n 3, 1) := by decide +kernel
theorem dX12_sentNext_91 : decode cX12_sentNext 91 = .ok (.iload_n 1, 1) := by decide +kernel
theorem dX12_sentNext_92 : decode cX12_sentNext 92 = .ok (.invokevirtual 407, 3) := by decide +kernel
theorem dX12_sentNext_95 : decode cX12_sentNext 95 = .ok (.ireturn, 1) := by decide +kernel
theorem dX12_guards_0 : decode cX12_guards 0 = .ok (.iload_n 1, 1) := by decide +kernel
theorem dX12_guards_1 : decode cX12_guards 1 = .ok (.iconst 3, 1) := by decide +kernel
theorem dX12_guards_2 : decode cX12_guards 2 = .ok (.bipush 6, 2) := by decide +kernel
theorem dX12_guards_4 : decode cX12_guards 4 = .ok (.invokestatic 117, 3) := by decide +kernel
theorem dX12_guards_7 : decode cX12_guards 7 = .ok (.ifCond .eq 11, 3) := by decide +kernel
theorem dX12_guards_10 : decode cX12_guards 10 = .ok (.iload_n 1, 1) := by decide +kernel
theorem dX12_guards_11 : decode cX12_guards 11 = .ok (.aload_n 0, 1) := by decide +kernel
theorem dX12_guards_12 : decode cX12_guards 12 = .ok (.getfield 152, 3) := by decide +kernel
theorem dX12_guards_15 : decode cX12_guards 15 = .ok (.if_icmp .le 5, 3) := by decide +kernel
theorem dX12_guards_18 : decode cX12_guards 18 = .ok (.iconst (-1), 1) := by decide +kernel
theorem dX12_guards_19 : decode cX12_guards 19 = .ok (.ireturn, 1) := by decide +kernel
theorem dX12_guards_20 : decode cX12_guards 20 = .ok (.aload_n 0, 1) := by decide +kernel
theorem dX12_guards_21 : decode cX12_guards 21 = .ok (.iconst 0, 1) := by decide +kernel
theorem dX12_guards_22 : decode cX12_guards 22 = .ok (.putfield 152, 3) := by decide +kernel
theorem dX12_guards_25 : decode cX12_guards 25 = .ok (.iconst 0, 1) := by decide +kernel
theorem dX12_guards_26 : decode cX12_guards 26 = .ok (.istore_n 2, 1) := by decide +kernel
theorem dX12_guards_27 : decode cX12_guards 27 = .ok (.iconst 0, 1) := by decide +kernel
theorem dX12_guards_28 : decode cX12_guards 28 = .ok (.istore_n 3, 1) := by decide +kernel
theorem dX12_guards_29 : decode cX12_guards 29 = .ok (.iload_n 3, 1) := by decide +kernel
theorem dX12_guards_30 : decode cX12_guards 30 = .ok (.iload_n 1, 1) := by decide +kernel
theorem dX12_guards_31 : decode cX12_guards 31 = .ok (.if_icmp .ge 51, 3) := by decide +kernel
theorem dX12_guards_34 : decode cX12_guards 34 = .ok (.aload_n 0, 1) := by decide +kernel
theorem dX12_guards_35 : decode cX12_guards 35 = .ok (.iload_n 3, 1) := by decide +kernel
theorem dX12_guards_36 : decode cX12_guards 36 = .ok (.invokevirtual 401, 3) := by decide +kernel
theorem dX12_guards_39 : decode cX12_guards 39 = .ok (.istore 4, 2) := by decide +kernel
theorem dX12_guards_41 : decode cX12_guards 41 = .ok (.aload_n 0, 1) := by decide +kernel
theorem dX12_guards_42 : decode cX12_guards 42 = .ok (.iload 4, 2) := by decide +kernel
theorem dX12_guards_44 : decode cX12_guards 44 = .ok (.invokevirtual 149, 3) := by decide +kernel
theorem dX12_guards_47 : decode cX12_guards 47 = .ok (.ifCond .eq 12, 3) := by decide +kernel
theorem dX12_guards_50 : decode cX12_guards 50 = .ok (.iload_n 2, 1) := by decide +kernel
theorem dX12_guards_51 : decode cX12_guards 51 = .ok (.iload 4, 2) := by decide +kernel
theorem dX12_guards_53 : decode cX12_guards 53 = .ok (.invokestatic 125, 3) := by decide +kernel
theorem dX12_guards_56 : decode cX12_guards 56 = .ok (.ifCond .eq 6, 3) := by decide +kernel
theorem dX12_guards_59 : decode cX12_guards 59 = .ok (.bipush (-3), 2) := by decide +kernel
theorem dX12_guards_61 : decode cX12_guards 61 = .ok (.ireturn, 1) := by decide +kernel
theorem dX12_guards_62 : decode cX12_guards 62 = .ok (.iload_n 2, 1) := by decide +kernel
theorem dX12_guards_63 : decode cX12_guards 63 = .ok (.iconst 1, 1) := by decide +kernel
theorem dX12_guards_64 : decode cX12_guards 64 = .ok (.iload 4, 2) := by decide +kernel
theorem dX12_guards_66 : decode cX12_guards 66 = .ok (.ishl, 1) := by decide +kernel
theorem dX12_guards_67 : decode cX12_guards 67 = .ok (.ior, 1) := by decide +kernel
theorem dX12_guards_68 : decode cX12_guards 68 = .ok (.istore_n 2, 1) := by decide +kernel
theorem dX12_guards_69 : decode cX12_guards 69 = .ok (.aload_n 0, 1) := by decide +kernel
theorem dX12_guards_70 : decode cX12_guards 70 = .ok (.getfield 96, 3) := by decide +kernel
theorem dX12_guards_73 : decode cX12_guards 73 = .ok (.iload_n 3, 1) := by decide +kernel
theorem dX12_guards_74 : decode cX12_guards 74 = .ok (.iload_n 3, 1) := by decide +kernel
theorem dX12_guards_75 : decode cX12_guards 75 = .ok (.iastore, 1) := by decide +kernel
theorem dX12_guards_76 : decode cX12_guards 76 = .ok (.iinc 3 1, 3) := by decide +kernel
theorem dX12_guards_79 : decode cX12_guards 79 = .ok (.goto (-50), 3) := by decide +kernel
theorem dX12_guards_82 : decode cX12_guards 82 = .ok (.iconst 0, 1) := by decide +kernel
theorem dX12_guards_83 : decode cX12_guards 83 = .ok (.istore_n 3, 1) := by decide +kernel
theorem dX12_guards_84 : decode cX12_guards 84 = .ok (.iconst 1, 1) := by decide +kernel
theorem dX12_guards_85 : decode cX12_guards 85 = .ok (.istore 4, 2) := by decide +kernel
theorem dX12_guards_87 : decode cX12_guards 87 = .ok (.iload 4, 2) := by decide +kernel
theorem dX12_guards_89 : decode cX12_guards 89 = .ok (.ifCond .eq 25, 3) := by decide +kernel
theorem dX12_guards_92 : decode cX12_guards 92 = .ok (.aload_n 0, 1) := by decide +kernel
theorem dX12_guards_93 : decode cX12_guards 93 = .ok (.iload_n 1, 1) := by decide +kernel
theorem dX12_guards_94 : decode cX12_guards 94 = .ok (.invokevirtual 413, 3) := by decide +kernel
theorem dX12_guards_97 : decode cX12_guards 97 = .ok (.ifCond .eq 7, 3) := by decide +kernel
theorem dX12_guards_100 : decode cX12_guards 100 = .ok (.iload_n 3, 1) := by decide +kernel
theorem dX12_guards_101 : decode cX12_guards 101 = .ok (.iconst 1, 1) := by decide +kernel
theorem dX12_guards_102 : decode cX12_guards 102 = .ok (.iadd, 1) := by decide +kernel
theorem dX12_guards_103 : decode cX12_guards 103 = .ok (.istore_n 3, 1) := by decide +kernel
theorem dX12_guards_104 : decode cX12_guards 104 = .ok (.aload_n 0, 1) := by decide +kernel
theorem dX12_guards_105 : decode cX12_guards 105 = .ok (.iload_n 1, 1) := by decide +kernel
theorem dX12_guards_106 : decode cX12_guards 106 = .ok (.invokevirtual 416, 3) := by decide +kernel
theorem dX12_guards_109 : decode cX12_guards 109 = .ok (.istore 4, 2) := by decide +kernel
theorem dX12_guards_111 : decode cX12_guards 111 = .ok (.goto (-24), 3) := by decide +kernel
theorem dX12_guards_114 : decode cX12_guards 114 = .ok (.iload_n 3, 1) := by decide +kernel
theorem dX12_guards_115 : decode cX12_guards 115 = .ok (.ireturn, 1) := by decide +kernel
theorem dX12_word_0 : decode cX12_word 0 = .ok (.iload_n 1, 1) := by decide +kernel
theorem dX12_word_1 : decode cX12_word 1 = .ok (.iconst 1, 1) := by decide +kernel
theorem dX12_word_2 : decode cX12_word 2 = .ok (.bipush 8, 2) := by decide +kernel
theorem dX12_word_4 : decode cX12_word 4 = .ok (.invokestatic 117, 3) := by decide +kernel
theorem dX12_word_7 : decode cX12_word 7 = .ok (.ifCond .eq 25, 3) := by decide +kernel
theorem dX12_word_10 : decode cX12_word 10 = .ok (.iload_n 2, 1) := by decide +kernel
theorem dX12_word_11 : decode cX12_word 11 = .ok (.iconst 0, 1) := by decide +kernel
theorem dX12_word_12 : decode cX12_word 12 = .ok (.ldc_w 261, 3) := by decide +kernel
theorem dX12_word_15 : decode cX12_word 15 = .ok (.invokestatic 117, 3) := by decide +kernel
theorem dX12_word_18 : decode cX12_word 18 = .ok (.ifCond .eq 14, 3) := by decide +kernel
theorem dX12_word_21 : decode cX12_word 21 = .ok (.iload_n 3, 1) := by decide +kernel
theorem dX12_word_22 : decode cX12_word 22 = .ok (.iconst 0, 1) := by decide +kernel
theorem dX12_word_23 : decode cX12_word 23 = .ok (.sipush 128, 3) := by decide +kernel
theorem dX12_word_26 : decode cX12_word 26 = .ok (.invokestatic 117, 3) := by decide +kernel
theorem dX12_word_29 : decode cX12_word 29 = .ok (.ifCond .ne 7, 3) := by decide +kernel
theorem dX12_word_32 : decode cX12_word 32 = .ok (.ldc2_w 419, 3) := by decide +kernel
theorem dX12_word_35 : decode cX12_word 35 = .ok (.lreturn, 1) := by decide +kernel
theorem dX12_word_36 : decode cX12_word 36 = .ok (.iconst 0, 1) := by decide +kernel
theorem dX12_word_37 : decode cX12_word 37 = .ok (.istore 4, 2) := by decide +kernel
theorem dX12_word_39 : decode cX12_word 39 = .ok (.iload 4, 2) := by decide +kernel
theorem dX12_word_41 : decode cX12_word 41 = .ok (.iload_n 3, 1) := by decide +kernel
theorem dX12_word_42 : decode cX12_word 42 = .ok (.if_icmp .gt 26, 3) := by decide +kernel
theorem dX12_word_45 : decode cX12_word 45 = .ok (.aload_n 0, 1) := by decide +kernel
theorem dX12_word_46 : decode cX12_word 46 = .ok (.getfield 99, 3) := by decide +kernel
theorem dX12_word_49 : decode cX12_word 49 = .ok (.iload 4, 2) := by decide +kernel
theorem dX12_word_51 : decode cX12_word 51 = .ok (.iload 4, 2) := by decide +kernel
theorem dX12_word_53 : decode cX12_word 53 = .ok (.ifCond .ne 7, 3) := by decide +kernel
theorem dX12_word_56 : decode cX12_word 56 = .ok (.lconst 1, 1) := by decide +kernel
theorem dX12_word_57 : decode cX12_word 57 = .ok (.goto 4, 3) := by decide +kernel
theorem dX12_word_60 : decode cX12_word 60 = .ok (.lconst 0, 1) := by decide +kernel
theorem dX12_word_61 : decode cX12_word 61 = .ok (.lastore, 1) := by decide +kernel
theorem dX12_word_62 : decode cX12_word 62 = .ok (.iinc 4 1, 3) := by decide +kernel
theorem dX12_word_65 : decode cX12_word 65 = .ok (.goto (-26), 3) := by decide +kernel
theorem dX12_word_68 : decode cX12_word 68 = .ok (.iconst 0, 1) := by decide +kernel
theorem dX12_word_69 : decode cX12_word 69 = .ok (.istore 4, 2) := by decide +kernel
theorem dX12_word_71 : decode cX12_word 71 = .ok (.iload 4, 2) := by decide +kernel
theorem dX12_word_73 : decode cX12_word 73 = .ok (.iload_n 1, 1) := by decide +kernel
theorem dX12_word_74 : decode cX12_word 74 = .ok (.if_icmp .ge 120, 3) := by decide +kernel
theorem dX12_word_77 : decode cX12_word 77 = .ok (.iconst 0, 1) := by decide +kernel
theorem dX12_word_78 : decode cX12_word 78 = .ok (.istore 5, 2) := by decide +kernel
theorem dX12_word_80 : decode cX12_word 80 = .ok (.iload 5, 2) := by decide +kernel
theorem dX12_word_82 : decode cX12_word 82 = .ok (.iload_n 3, 1) := by decide +kernel
theorem dX12_word_83 : decode cX12_word 83 = .ok (.if_icmp .gt 76, 3) := by decide +kernel
theorem dX12_word_86 : decode cX12_word 86 = .ok (.aload_n 0, 1) := by decide +kernel
theorem dX12_word_87 : decode cX12_word 87 = .ok (.getfield 103, 3) := by decide +kernel
theorem dX12_word_90 : decode cX12_word 90 = .ok (.iload 5, 2) := by decide +kernel
theorem dX12_word_92 : decode cX12_word 92 = .ok (.lconst 0, 1) := by decide +kernel
theorem dX12_word_93 : decode cX12_word 93 = .ok (.lastore, 1) := by decide +kernel
theorem dX12_word_94 : decode cX12_word 94 = .ok (.iconst 0, 1) := by decide +kernel
theorem dX12_word_95 : decode cX12_word 95 = .ok (.istore 6, 2) := by decide +kernel
theorem dX12_word_97 : decode cX12_word 97 = .ok (.iload 6, 2) := by decide +kernel
theorem dX12_word_99 : decode cX12_word 99 = .ok (.bipush 16, 2) := by decide +kernel
theorem dX12_word_101 : decode cX12_word 101 = .ok (.if_icmp .ge 52, 3) := by decide +kernel
theorem dX12_word_104 : decode cX12_word 104 = .ok (.iload 6, 2) := by decide +kernel
theorem dX12_word_106 : decode cX12_word 106 = .ok (.iload 5, 2) := by decide +kernel
theorem dX12_word_108 : decode cX12_word 108 = .ok (.if_icmp .ge 45, 3) := by decide +kernel
theorem dX12_word_111 : decode cX12_word 111 = .ok (.iload_n 2, 1) := by decide +kernel
theorem dX12_word_112 : decode cX12_word 112 = .ok (.iload 6, 2) := by decide +kernel
theorem dX12_word_114 : decode cX12_word 114 = .ok (.invokestatic 125, 3) := by decide +kernel
theorem dX12_word_117 : decode cX12_word 117 = .ok (.ifCond .eq 30, 3) := by decide +kernel
theorem dX12_word_120 : decode cX12_word 120 = .ok (.aload_n 0, 1) := by decide +kernel
theorem dX12_word_121 : decode cX12_word 121 = .ok (.getfield 103, 3) := by decide +kernel
theorem dX12_word_124 : decode cX12_word 124 = .ok (.iload 5, 2) := by decide +kernel
theorem dX12_word_126 : decode cX12_word 126 = .ok (.aload_n 0, 1) := by decide +kernel
theorem dX12_word_127 : decode cX12_word 127 = .ok (.getfield 103, 3) := by decide +kernel
theorem dX12_word_130 : decode cX12_word 130 = .ok (.iload 5, 2) := by decide +kernel
theorem dX12_word_132 : decode cX12_word 132 = .ok (.laload, 1) := by decide +kernel
theorem dX12_word_133 : decode cX12_word 133 = .ok (.aload_n 0, 1) := by decide +kernel
theorem dX12_word_134 : decode cX12_word 134 = .ok (.getfield 99, 3) := by decide +kernel
theorem dX12_word_137 : decode cX12_word 137 = .ok (.iload 5, 2) := by decide +kernel
theorem dX12_word_139 : decode cX12_word 139 = .ok (.iload 6, 2) := by decide +kernel
theorem dX12_word_141 : decode cX12_word 141 = .ok (.isub, 1) := by decide +kernel
theorem dX12_word_142 : decode cX12_word 142 = .ok (.iconst 1, 1) := by decide +kernel
theorem dX12_word_143 : decode cX12_word 143 = .ok (.isub, 1) := by decide +kernel
theorem dX12_word_144 : decode cX12_word 144 = .ok (.laload, 1) := by decide +kernel
theorem dX12_word_145 : decode cX12_word 145 = .ok (.ladd, 1) := by decide +kernel
theorem dX12_word_146 : decode cX12_word 146 = .ok (.lastore, 1) := by decide +kernel
theorem dX12_word_147 : decode cX12_word 147 = .ok (.iinc 6 1, 3) := by decide +kernel
theorem dX12_word_150 : decode cX12_word 150 = .ok (.goto (-53), 3) := by decide +kernel
theorem dX12_word_153 : decode cX12_word 153 = .ok (.iinc 5 1, 3) := by decide +kernel
theorem dX12_word_156 : decode cX12_word 156 = .ok (.goto (-76), 3) := by decide +kernel
theorem dX12_word_159 : decode cX12_word 159 = .ok (.iconst 0, 1) := by decide +kernel
theorem dX12_word_160 : decode cX12_word 160 = .ok (.istore 5, 2) := by decide +kernel
theorem dX12_word_162 : decode cX12_word 162 = .ok (.iload 5, 2) := by decide +kernel
theorem dX12_word_164 : decode cX12_word 164 = .ok (.iload_n 3, 1) := by decide +kernel
theorem dX12_word_165 : decode cX12_word 165 = .ok (.if_icmp .gt 23, 3) := by decide +kernel
theorem dX12_word_168 : decode cX12_word 168 = .ok (.aload_n 0, 1) := by decide +kernel
theorem dX12_word_169 : decode cX12_word 169 = .ok (.getfield 99, 3) := by decide +kernel
theorem dX12_word_172 : decode cX12_word 172 = .ok (.iload 5, 2) := by decide +kernel
theorem dX12_word_174 : decode cX12_word 174 = .ok (.aload_n 0, 1) := by decide +kernel
theorem dX12_word_175 : decode cX12_word 175 = .ok (.getfield 103, 3) := by decide +kernel
theorem dX12_word_178 : decode cX12_word 178 = .ok (.iload 5, 2) := by decide +kernel
theorem dX12_word_180 : decode cX12_word 180 = .ok (.laload, 1) := by decide +kernel
theorem dX12_word_181 : decode cX12_word 181 = .ok (.lastore, 1) := by decide +kernel
theorem dX12_word_182 : decode cX12_word 182 = .ok (.iinc 5 1, 3) := by decide +kernel
theorem dX12_word_185 : decode cX12_word 185 = .ok (.goto (-23), 3) := by decide +kernel
theorem dX12_word_188 : decode cX12_word 188 = .ok (.iinc 4 1, 3) := by decide +kernel
theorem dX12_word_191 : decode cX12_word 191 = .ok (.goto (-120), 3) := by decide +kernel
theorem dX12_word_194 : decode cX12_word 194 = .ok (.aload_n 0, 1) := by decide +kernel
theorem dX12_word_195 : decode cX12_word 195 = .ok (.getfield 99, 3) := by decide +kernel
theorem dX12_word_198 : decode cX12_word 198 = .ok (.iload_n 3, 1) := by decide +kernel
theorem dX12_word_199 : decode cX12_word 199 = .ok (.laload, 1) := by decide +kernel
theorem dX12_word_200 : decode cX12_word 200 = .ok (.lreturn, 1) := by decide +kernel
theorem dX12_rooms_0 : decode cX12_rooms 0 = .ok (.iload_n 1, 1) := by decide +kernel
theorem dX12_rooms_1 : decode cX12_rooms 1 = .ok (.iconst 1, 1) := by decide +kernel
theorem dX12_rooms_2 : decode cX12_rooms 2 = .ok (.bipush 12, 2) := by decide +kernel
theorem dX12_rooms_4 : decode cX12_rooms 4 = .ok (.invokestatic 117, 3) := by decide +kernel
theorem dX12_rooms_7 : decode cX12_rooms 7 = .ok (.ifCond .eq 21, 3) := by decide +kernel
theorem dX12_rooms_10 : decode cX12_rooms 10 = .ok (.iload_n 2, 1) := by decide +kernel
theorem dX12_rooms_11 : decode cX12_rooms 11 = .ok (.iconst 0, 1) := by decide +kernel
theorem dX12_rooms_12 : decode cX12_rooms 12 = .ok (.bipush 99, 2) := by decide +kernel
theorem dX12_rooms_14 : decode cX12_rooms 14 = .ok (.invokestatic 117, 3) := by decide +kernel
theorem dX12_rooms_17 : decode cX12_rooms 17 = .ok (.ifCond .eq 11, 3) := by decide +kernel
theorem dX12_rooms_20 : decode cX12_rooms 20 = .ok (.iload_n 1, 1) := by decide +kernel
theorem dX12_rooms_21 : decode cX12_rooms 21 = .ok (.aload_n 0, 1) := by decide +kernel
theorem dX12_rooms_22 : decode cX12_rooms 22 = .ok (.getfield 152, 3) := by decide +kernel
theorem dX12_rooms_25 : decode cX12_rooms 25 = .ok (.if_icmp .le 5, 3) := by decide +kernel
theorem dX12_rooms_28 : decode cX12_rooms 28 = .ok (.iconst (-1), 1) := by decide +kernel
theorem dX12_rooms_29 : decode cX12_rooms 29 = .ok (.ireturn, 1) := by decide +kernel
theorem dX12_rooms_30 : decode cX12_rooms 30 = .ok (.aload_n 0, 1) := by decide +kernel
theorem dX12_rooms_31 : decode cX12_rooms 31 = .ok (.iconst 0, 1) := by decide +kernel
theorem dX12_rooms_32 : decode cX12_rooms 32 = .ok (.putfield 152, 3) := by decide +kernel
theorem dX12_rooms_35 : decode cX12_rooms 35 = .ok (.iconst 0, 1) := by decide +kernel
theorem dX12_rooms_36 : decode cX12_rooms 36 = .ok (.istore_n 3, 1) := by decide +kernel
theorem dX12_rooms_37 : decode cX12_rooms 37 = .ok (.iload_n 3, 1) := by decide +kernel
theorem dX12_rooms_38 : decode cX12_rooms 38 = .ok (.iload_n 1, 1) := by decide +kernel
theorem dX12_rooms_39 : decode cX12_rooms 39 = .ok (.if_icmp .ge 22, 3) := by decide +kernel
theorem dX12_rooms_42 : decode cX12_rooms 42 = .ok (.aload_n 0, 1) := by decide +kernel
theorem dX12_rooms_43 : decode cX12_rooms 43 = .ok (.iload_n 3, 1) := by decide +kernel
theorem dX12_rooms_44 : decode cX12_rooms 44 = .ok (.invokevirtual 401, 3) := by decide +kernel
theorem dX12_rooms_47 : decode cX12_rooms 47 = .ok (.bipush 16, 2) := by decide +kernel
theorem dX12_rooms_49 : decode cX12_rooms 49 = .ok (.if_icmp .lt 6, 3) := by decide +kernel
theorem dX12_rooms_52 : decode cX12_rooms 52 = .ok (.bipush (-3), 2) := by decide +kernel
theorem dX12_rooms_54 : decode cX12_rooms 54 = .ok (.ireturn, 1) := by decide +kernel
theorem dX12_rooms_55 : decode cX12_rooms 55 = .ok (.iinc 3 1, 3) := by decide +kernel
theorem dX12_rooms_58 : decode cX12_rooms 58 = .ok (.goto (-21), 3) := by decide +kernel
theorem dX12_rooms_61 : decode cX12_rooms 61 = .ok (.iconst 1, 1) := by decide +kernel
theorem dX12_rooms_62 : decode cX12_rooms 62 = .ok (.istore_n 3, 1) := by decide +kernel
theorem dX12_rooms_63 : decode cX12_rooms 63 = .ok (.iload_n 3, 1) := by decide +kernel
theorem dX12_rooms_64 : decode cX12_rooms 64 = .ok (.iconst 1, 1) := by decide +kernel
theorem dX12_rooms_65 : decode cX12_rooms 65 = .ok (.iload_n 1, 1) := by decide +kernel
theorem dX12_rooms_66 : decode cX12_rooms 66 = .ok (.ishl, 1) := by decide +kernel
theorem dX12_rooms_67 : decode cX12_rooms 67 = .ok (.if_icmp .ge 56, 3) := by decide +kernel
theorem dX12_rooms_70 : decode cX12_rooms 70 = .ok (.iconst 0, 1) := by decide +kernel
theorem dX12_rooms_71 : decode cX12_rooms 71 = .ok (.istore 4, 2) := by decide +kernel
theorem dX12_rooms_73 : decode cX12_rooms 73 = .ok (.iload 4, 2) := by decide +kernel
theorem dX12_rooms_75 : decode cX12_rooms 75 = .ok (.iload_n 1, 1) := by decide +kernel
theorem dX12_rooms_76 : decode cX12_rooms 76 = .ok (.if_icmp .ge 41, 3) := by decide +kernel
theorem dX12_rooms_79 : decode cX12_rooms 79 = .ok (.aload_n 0, 1) := by decide +kernel
theorem dX12_rooms_80 : decode cX12_rooms 80 = .ok (.getfield 107, 3) := by decide +kernel
theorem dX12_rooms_83 : decode cX12_rooms 83 = .ok (.bipush 12, 2) := by decide +kernel
theorem dX12_rooms_85 : decode cX12_rooms 85 = .ok (.iload_n 3, 1) := by decide +kernel
theorem dX12_rooms_86 : decode cX12_rooms 86 = .ok (.imul, 1) := by decide +kernel
theorem dX12_rooms_87 : decode cX12_rooms 87 = .ok (.iload 4, 2) := by decide +kernel
theorem dX12_rooms_89 : decode cX12_rooms 89 = .ok (.iadd, 1) := by decide +kernel
theorem dX12_rooms_90 : decode cX12_rooms 90 = .ok (.iload_n 3, 1) := by decide +kernel
theorem dX12_rooms_91 : decode cX12_rooms 91 = .ok (.iconst 1, 1) := by decide +kernel
theorem dX12_rooms_92 : decode cX12_rooms 92 = .ok (.iload 4, 2) := by decide +kernel
theorem dX12_rooms_94 : decode cX12_rooms 94 = .ok (.ishl, 1) := by decide +kernel
theorem dX12_rooms_95 : decode cX12_rooms 95 = .ok (.if_icmp .ne 7, 3) := by decide +kernel
theorem dX12_rooms_98 : decode cX12_rooms 98 = .ok (.iload_n 2, 1) := by decide +kernel
theorem dX12_rooms_99 : decode cX12_rooms 99 = .ok (.goto 11, 3) := by decide +kernel
theorem dX12_rooms_102 : decode cX12_rooms 102 = .ok (.aload_n 0, 1) := by decide +kernel
theorem dX12_rooms_103 : decode cX12_rooms 103 = .ok (.iload_n 1, 1) := by decide +kernel
theorem dX12_rooms_104 : decode cX12_rooms 104 = .ok (.iload_n 3, 1) := by decide +kernel
theorem dX12_rooms_105 : decode cX12_rooms 105 = .ok (.iload 4, 2) := by decide +kernel
theorem dX12_rooms_107 : decode cX12_rooms 107 = .ok (.invokevirtual 421, 3) := by decide +kernel
theorem dX12_rooms_110 : decode cX12_rooms 110 = .ok (.iastore, 1) := by decide +kernel
theorem dX12_rooms_111 : decode cX12_rooms 111 = .ok (.iinc 4 1, 3) := by decide +kernel
theorem dX12_rooms_114 : decode cX12_rooms 114 = .ok (.goto (-41), 3) := by decide +kernel
theorem dX12_rooms_117 : decode cX12_rooms 117 = .ok (.iinc 3 1, 3) := by decide +kernel
theorem dX12_rooms_120 : decode cX12_rooms 120 = .ok (.goto (-57), 3) := by decide +kernel
theorem dX12_rooms_123 : decode cX12_rooms 123 = .ok (.bipush 99, 2) := by decide +kernel
theorem dX12_rooms_125 : decode cX12_rooms 125 = .ok (.istore_n 3, 1) := by decide +kernel
theorem dX12_rooms_126 : decode cX12_rooms 126 = .ok (.iconst 0, 1) := by decide +kernel
theorem dX12_rooms_127 : decode cX12_rooms 127 = .ok (.istore 4, 2) := by decide +kernel
theorem dX12_rooms_129 : decode cX12_rooms 129 = .ok (.iload 4, 2) := by decide +kernel
theorem dX12_rooms_131 : decode cX12_rooms 131 = .ok (.iload_n 1, 1) := by decide +kernel
theorem dX12_rooms_132 : decode cX12_rooms 132 = .ok (.if_icmp .ge 30, 3) := by decide +kernel
theorem dX12_rooms_135 : decode cX12_rooms 135 = .ok (.iload_n 3, 1) := by decide +kernel
theorem dX12_rooms_136 : decode cX12_rooms 136 = .ok (.aload_n 0, 1) := by decide +kernel
theorem dX12_rooms_137 : decode cX12_rooms 137 = .ok (.getfield 107, 3) := by decide +kernel
theorem dX12_rooms_140 : decode cX12_rooms 140 = .ok (.bipush 12, 2) := by decide +kernel
theorem dX12_rooms_142 : decode cX12_rooms 142 = .ok (.iconst 1, 1) := by decide +kernel
theorem dX12_rooms_143 : decode cX12_rooms 143 = .ok (.iload_n 1, 1) := by decide +kernel
theorem dX12_rooms_144 : decode cX12_rooms 144 = .ok (.ishl, 1) := by decide +kernel
theorem dX12_rooms_145 : decode cX12_rooms 145 = .ok (.iconst 1, 1) := by decide +kernel
theorem dX12_rooms_146 : decode cX12_rooms 146 = .ok (.isub, 1) := by decide +kernel
theorem dX12_rooms_147 : decode cX12_rooms 147 = .ok (.imul, 1) := by decide +kernel
theorem dX12_rooms_148 : decode cX12_rooms 148 = .ok (.iload 4, 2) := by decide +kernel
theorem dX12_rooms_150 : decode cX12_rooms 150 = .ok (.iadd, 1) := by decide +kernel
theorem dX12_rooms_151 : decode cX12_rooms 151 = .ok (.iaload, 1) := by decide +kernel
theorem dX12_rooms_152 : decode cX12_rooms 152 = .ok (.invokestatic 110, 3) := by decide +kernel
theorem dX12_rooms_155 : decode cX12_rooms 155 = .ok (.istore_n 3, 1) := by decide +kernel
theorem dX12_rooms_156 : decode cX12_rooms 156 = .ok (.iinc 4 1, 3) := by decide +kernel
theorem dX12_rooms_159 : decode cX12_rooms 159 = .ok (.goto (-30), 3) := by decide +kernel
theorem dX12_rooms_162 : decode cX12_rooms 162 = .ok (.iload_n 3, 1) := by decide +kernel
theorem dX12_rooms_163 : decode cX12_rooms 163 = .ok (.ireturn, 1) := by decide +kernel
theorem dX12_seed_0 : decode cX12_seed 0 = .ok (.iload_n 1, 1) := by decide +kernel
theorem dX12_seed_1 : decode cX12_seed 1 = .ok (.iconst 0, 1) := by decide +kernel
theorem dX12_seed_2 : decode cX12_seed 2 = .ok (.ldc_w 261, 3) := by decide +kernel
theorem dX12_seed_5 : decode cX12_seed 5 = .ok (.invokestatic 117, 3) := by decide +kernel
theorem dX12_seed_8 : decode cX12_seed 8 = .ok (.ifCond .ne 5, 3) := by decide +kernel
theorem dX12_seed_11 : decode cX12_seed 11 = .ok (.iconst 0, 1) := by decide +kernel
theorem dX12_seed_12 : decode cX12_seed 12 = .ok (.ireturn, 1) := by decide +kernel
theorem dX12_seed_13 : decode cX12_seed 13 = .ok (.aload_n 0, 1) := by decide +kernel
theorem dX12_seed_14 : decode cX12_seed 14 = .ok (.getfield 7, 3) := by decide +kernel
theorem dX12_seed_17 : decode cX12_seed 17 = .ok (.sipush 209, 3) := by decide +kernel
theorem dX12_seed_20 : decode cX12_seed 20 = .ok (.iload_n 1, 1) := by decide +kernel
theorem dX12_seed_21 : decode cX12_seed 21 = .ok (.iastore, 1) := by decide +kernel
theorem dX12_seed_22 : decode cX12_seed 22 = .ok (.iconst 1, 1) := by decide +kernel
theorem dX12_seed_23 : decode cX12_seed 23 = .ok (.ireturn, 1) := by decide +kernel
theorem dX12_keep_0 : decode cX12_keep 0 = .ok (.aload_n 0, 1) := by decide +kernel
theorem dX12_keep_1 : decode cX12_keep 1 = .ok (.iconst 1, 1) := by decide +kernel
theorem dX12_keep_2 : decode cX12_keep 2 = .ok (.putfield 424, 3) := by decide +kernel
theorem dX12_keep_5 : decode cX12_keep 5 = .ok (.aload_n 0, 1) := by decide +kernel
theorem dX12_keep_6 : decode cX12_keep 6 = .ok (.getfield 7, 3) := by decide +kernel
theorem dX12_keep_9 : decode cX12_keep 9 = .ok (.aload_n 0, 1) := by decide +kernel
theorem dX12_keep_10 : decode cX12_keep 10 = .ok (.getfield 16, 3) := by decide +kernel
theorem dX12_keep_13 : decode cX12_keep 13 = .ok (.invokestatic 280, 3) := by decide +kernel
theorem dX12_keep_16 : decode cX12_keep 16 = .ok (.aload_n 0, 1) := by decide +kernel
theorem dX12_keep_17 : decode cX12_keep 17 = .ok (.getfield 7, 3) := by decide +kernel
theorem dX12_keep_20 : decode cX12_keep 20 = .ok (.sipush 208, 3) := by decide +kernel
theorem dX12_keep_23 : decode cX12_keep 23 = .ok (.iaload, 1) := by decide +kernel
theorem dX12_keep_24 : decode cX12_keep 24 = .ok (.ireturn, 1) := by decide +kernel
theorem dX12_undo_0 : decode cX12_undo 0 = .ok (.aload_n 0, 1) := by decide +kernel
theorem dX12_undo_1 : decode cX12_undo 1 = .ok (.getfield 424, 3) := by decide +kernel
theorem dX12_undo_4 : decode cX12_undo 4 = .ok (.ifCond .ne 5, 3) := by decide +kernel
theorem dX12_undo_7 : decode cX12_undo 7 = .ok (.iconst 0, 1) := by decide +kernel
theorem dX12_undo_8 : decode cX12_undo 8 = .ok (.ireturn, 1) := by decide +kernel
theorem dX12_undo_9 : decode cX12_undo 9 = .ok (.aload_n 0, 1) := by decide +kernel
theorem dX12_undo_10 : decode cX12_undo 10 = .ok (.getfield 16, 3) := by decide +kernel
theorem dX12_undo_13 : decode cX12_undo 13 = .ok (.aload_n 0, 1) := by decide +kernel
theorem dX12_undo_14 : decode cX12_undo 14 = .ok (.getfield 7, 3) := by decide +kernel
theorem dX12_undo_17 : decode cX12_undo 17 = .ok (.invokestatic 280, 3) := by decide +kernel
theorem dX12_undo_20 : decode cX12_undo 20 = .ok (.iconst 1, 1) := by decide +kernel
theorem dX12_undo_21 : decode cX12_undo 21 = .ok (.ireturn, 1) := by decide +kernel
theorem dX12_check_0 : decode cX12_check 0 = .ok (.iload_n 1, 1) := by decide +kernel
theorem dX12_check_1 : decode cX12_check 1 = .ok (.iconst 0, 1) := by decide +kernel
theorem dX12_check_2 : decode cX12_check 2 = .ok (.bipush 12, 2) := by decide +kernel
theorem dX12_check_4 : decode cX12_check 4 = .ok (.invokestatic 117, 3) := by decide +kernel
theorem dX12_check_7 : decode cX12_check 7 = .ok (.ifCond .eq 11, 3) := by decide +kernel
theorem dX12_check_10 : decode cX12_check 10 = .ok (.iload_n 1, 1) := by decide +kernel
theorem dX12_check_11 : decode cX12_check 11 = .ok (.aload_n 0, 1) := by decide +kernel
theorem dX12_check_12 : decode cX12_check 12 = .ok (.getfield 152, 3) := by decide +kernel
theorem dX12_check_15 : decode cX12_check 15 = .ok (.if_icmp .le 6, 3) := by decide +kernel
theorem dX12_check_18 : decode cX12_check 18 = .ok (.bipush (-2), 2) := by decide +kernel
theorem dX12_check_20 : decode cX12_check 20 = .ok (.ireturn, 1) := by decide +kernel
theorem dX12_check_21 : decode cX12_check 21 = .ok (.aload_n 0, 1) := by decide +kernel
theorem dX12_check_22 : decode cX12_check 22 = .ok (.iconst 0, 1) := by decide +kernel
theorem dX12_check_23 : decode cX12_check 23 = .ok (.putfield 152, 3) := by decide +kernel
theorem dX12_check_26 : decode cX12_check 26 = .ok (.iconst 0, 1) := by decide +kernel
theorem dX12_check_27 : decode cX12_check 27 = .ok (.istore_n 2, 1) := by decide +kernel
theorem dX12_check_28 : decode cX12_check 28 = .ok (.iload_n 2, 1) := by decide +kernel
theorem dX12_check_29 : decode cX12_check 29 = .ok (.iload_n 1, 1) := by decide +kernel
theorem dX12_check_30 : decode cX12_check 30 = .ok (.if_icmp .ge 38, 3) := by decide +kernel
theorem dX12_check_33 : decode cX12_check 33 = .ok (.aload_n 0, 1) := by decide +kernel
theorem dX12_check_34 : decode cX12_check 34 = .ok (.iload_n 2, 1) := by decide +kernel
theorem dX12_check_35 : decode cX12_check 35 = .ok (.invokevirtual 401, 3) := by decide +kernel
theorem dX12_check_38 : decode cX12_check 38 = .ok (.aload_n 0, 1) := by decide +kernel
theorem dX12_check_39 : decode cX12_check 39 = .ok (.iload_n 2, 1) := by decide +kernel
theorem dX12_check_40 : decode cX12_check 40 = .ok (.invokevirtual 149, 3) := by decide +kernel
theorem dX12_check_43 : decode cX12_check 43 = .ok (.ifCond .eq 11, 3) := by decide +kernel
theorem dX12_check_46 : decode cX12_check 46 = .ok (.aload_n 0, 1) := by decide +kernel
theorem dX12_check_47 : decode cX12_check 47 = .ok (.iload_n 2, 1) := by decide +kernel
theorem dX12_check_48 : decode cX12_check 48 = .ok (.invokevirtual 135, 3) := by decide +kernel
theorem dX12_check_51 : decode cX12_check 51 = .ok (.goto 6, 3) := by decide +kernel
theorem dX12_check_54 : decode cX12_check 54 = .ok (.sipush 255, 3) := by decide +kernel
theorem dX12_check_57 : decode cX12_check 57 = .ok (.if_icmp .eq 5, 3) := by decide +kernel
theorem dX12_check_60 : decode cX12_check 60 = .ok (.iload_n 2, 1) := by decide +kernel
theorem dX12_check_61 : decode cX12_check 61 = .ok (.ireturn, 1) := by decide +kernel
theorem dX12_check_62 : decode cX12_check 62 = .ok (.iinc 2 1, 3) := by decide +kernel
theorem dX12_check_65 : decode cX12_check 65 = .ok (.goto (-37), 3) := by decide +kernel
theorem dX12_check_68 : decode cX12_check 68 = .ok (.iconst (-1), 1) := by decide +kernel
theorem dX12_check_69 : decode cX12_check 69 = .ok (.ireturn, 1) := by decide +kernel
theorem dX12_twos_0 : decode cX12_twos 0 = .ok (.iconst 0, 1) := by decide +kernel
theorem dX12_twos_1 : decode cX12_twos 1 = .ok (.istore_n 1, 1) := by decide +kernel
theorem dX12_twos_2 : decode cX12_twos 2 = .ok (.iconst 0, 1) := by decide +kernel
theorem dX12_twos_3 : decode cX12_twos 3 = .ok (.istore_n 2, 1) := by decide +kernel
theorem dX12_twos_4 : decode cX12_twos 4 = .ok (.iload_n 2, 1) := by decide +kernel
theorem dX12_twos_5 : decode cX12_twos 5 = .ok (.bipush 12, 2) := by decide +kernel
theorem dX12_twos_7 : decode cX12_twos 7 = .ok (.if_icmp .ge 21, 3) := by decide +kernel
theorem dX12_twos_10 : decode cX12_twos 10 = .ok (.iload_n 1, 1) := by decide +kernel
theorem dX12_twos_11 : decode cX12_twos 11 = .ok (.aload_n 0, 1) := by decide +kernel
theorem dX12_twos_12 : decode cX12_twos 12 = .ok (.getfield 19, 3) := by decide +kernel
theorem dX12_twos_15 : decode cX12_twos 15 = .ok (.iload_n 2, 1) := by decide +kernel
theorem dX12_twos_16 : decode cX12_twos 16 = .ok (.iaload, 1) := by decide +kernel
theorem dX12_twos_17 : decode cX12_twos 17 = .ok (.invokestatic 308, 3) := by decide +kernel
theorem dX12_twos_20 : decode cX12_twos 20 = .ok (.iadd, 1) := by decide +kernel
theorem dX12_twos_21 : decode cX12_twos 21 = .ok (.istore_n 1, 1) := by decide +kernel
theorem dX12_twos_22 : decode cX12_twos 22 = .ok (.iinc 2 1, 3) := by decide +kernel
theorem dX12_twos_25 : decode cX12_twos 25 = .ok (.goto (-21), 3) := by decide +kernel
theorem dX12_twos_28 : decode cX12_twos 28 = .ok (.iload_n 1, 1) := by decide +kernel
theorem dX12_twos_29 : decode cX12_twos 29 = .ok (.iconst 2, 1) := by decide +kernel
theorem dX12_twos_30 : decode cX12_twos 30 = .ok (.idiv, 1) := by decide +kernel
theorem dX12_twos_31 : decode cX12_twos 31 = .ok (.ireturn, 1) := by decide +kernel
theorem dX12_openedOfAll_0 : decode cX12_openedOfAll 0 = .ok (.iconst 0, 1) := by decide +kernel
theorem dX12_openedOfAll_1 : decode cX12_openedOfAll 1 = .ok (.istore_n 1, 1) := by decide +kernel
theorem dX12_openedOfAll_2 : decode cX12_openedOfAll 2 = .ok (.iconst 0, 1) := by decide +kernel
theorem dX12_openedOfAll_3 : decode cX12_openedOfAll 3 = .ok (.istore_n 2, 1) := by decide +kernel
theorem dX12_openedOfAll_4 : decode cX12_openedOfAll 4 = .ok (.iload_n 2, 1) := by decide +kernel
theorem dX12_openedOfAll_5 : decode cX12_openedOfAll 5 = .ok (.bipush 16, 2) := by decide +kernel
theorem dX12_openedOfAll_7 : decode cX12_openedOfAll 7 = .ok (.if_icmp .ge 30, 3) := by decide +kernel
theorem dX12_openedOfAll_10 : decode cX12_openedOfAll 10 = .ok (.aload_n 0, 1) := by decide +kernel
theorem dX12_openedOfAll_11 : decode cX12_openedOfAll 11 = .ok (.iload_n 2, 1) := by decide +kernel
theorem dX12_openedOfAll_12 : decode cX12_openedOfAll 12 = .ok (.invokevirtual 142, 3) := by decide +kernel
theorem dX12_openedOfAll_15 : decode cX12_openedOfAll 15 = .ok (.ifCond .eq 16, 3) := by decide +kernel
theorem dX12_openedOfAll_18 : decode cX12_openedOfAll 18 = .ok (.iload_n 1, 1) := by decide +kernel
theorem dX12_openedOfAll_19 : decode cX12_openedOfAll 19 = .ok (.aload_n 0, 1) := by decide +kernel
theorem dX12_openedOfAll_20 : decode cX12_openedOfAll 20 = .ok (.getfield 7, 3) := by decide +kernel
theorem dX12_openedOfAll_23 : decode cX12_openedOfAll 23 = .ok (.sipush 192, 3) := by decide +kernel
theorem dX12_openedOfAll_26 : decode cX12_openedOfAll 26 = .ok (.iload_n 2, 1) := by decide +kernel
theorem dX12_openedOfAll_27 : decode cX12_openedOfAll 27 = .ok (.iadd, 1) := by decide +kernel
theorem dX12_openedOfAll_28 : decode cX12_openedOfAll 28 = .ok (.iaload, 1) := by decide +kernel
theorem dX12_openedOfAll_29 : decode cX12_openedOfAll 29 = .ok (.iadd, 1) := by decide +kernel
theorem dX12_openedOfAll_30 : decode cX12_openedOfAll 30 = .ok (.istore_n 1, 1) := by decide +kernel
theorem dX12_openedOfAll_31 : decode cX12_openedOfAll 31 = .ok (.iinc 2 1, 3) := by decide +kernel
theorem dX12_openedOfAll_34 : decode cX12_openedOfAll 34 = .ok (.goto (-30), 3) := by decide +kernel
theorem dX12_openedOfAll_37 : decode cX12_openedOfAll 37 = .ok (.iload_n 1, 1) := by decide +kernel
theorem dX12_openedOfAll_38 : decode cX12_openedOfAll 38 = .ok (.ireturn, 1) := by decide +kernel
theorem dX12_count_0 : decode cX12_count 0 = .ok (.iload_n 1, 1) := by decide +kernel
theorem dX12_count_1 : decode cX12_count 1 = .ok (.tableswitch 95 0 7 #[47, 56, 61, 66, 71, 76, 81, 86], 47) := by decide +kernel
theorem dX12_count_48 : decode cX12_count 48 = .ok (.aload_n 0, 1) := by decide +kernel
theorem dX12_count_49 : decode cX12_count 49 = .ok (.getfield 7, 3) := by decide +kernel
theorem dX12_count_52 : decode cX12_count 52 = .ok (.sipush 208, 3) := by decide +kernel
theorem dX12_count_55 : decode cX12_count 55 = .ok (.iaload, 1) := by decide +kernel
theorem dX12_count_56 : decode cX12_count 56 = .ok (.ireturn, 1) := by decide +kernel
theorem dX12_count_57 : decode cX12_count 57 = .ok (.aload_n 0, 1) := by decide +kernel
theorem dX12_count_58 : decode cX12_count 58 = .ok (.getfield 121, 3) := by decide +kernel
theorem dX12_count_61 : decode cX12_count 61 = .ok (.ireturn, 1) := by decide +kernel
theorem dX12_count_62 : decode cX12_count 62 = .ok (.aload_n 0, 1) := by decide +kernel
theorem dX12_count_63 : decode cX12_count 63 = .ok (.getfield 129, 3) := by decide +kernel
theorem dX12_count_66 : decode cX12_count 66 = .ok (.ireturn, 1) := by decide +kernel
theorem dX12_count_67 : decode cX12_count 67 = .ok (.aload_n 0, 1) := by decide +kernel
theorem dX12_count_68 : decode cX12_count 68 = .ok (.invokevirtual 428, 3) := by decide +kernel
theorem dX12_count_71 : decode cX12_count 71 = .ok (.ireturn, 1) := by decide +kernel
theorem dX12_count_72 : decode cX12_count 72 = .ok (.aload_n 0, 1) := by decide +kernel
theorem dX12_count_73 : decode cX12_count 73 = .ok (.invokevirtual 431, 3) := by decide +kernel
theorem dX12_count_76 : decode cX12_count 76 = .ok (.ireturn, 1) := by decide +kernel
theorem dX12_count_77 : decode cX12_count 77 = .ok (.aload_n 0, 1) := by decide +kernel
theorem dX12_count_78 : decode cX12_count 78 = .ok (.getfield 251, 3) := by decide +kernel
theorem dX12_count_81 : decode cX12_count 81 = .ok (.ireturn, 1) := by decide +kernel
theorem dX12_count_82 : decode cX12_count 82 = .ok (.aload_n 0, 1) := by decide +kernel
theorem dX12_count_83 : decode cX12_count 83 = .ok (.getfield 152, 3) := by decide +kernel
theorem dX12_count_86 : decode cX12_count 86 = .ok (.ireturn, 1) := by decide +kernel
theorem dX12_count_87 : decode cX12_count 87 = .ok (.aload_n 0, 1) := by decide +kernel
theorem dX12_count_88 : decode cX12_count 88 = .ok (.getfield 7, 3) := by decide +kernel
theorem dX12_count_91 : decode cX12_count 91 = .ok (.sipush 209, 3) := by decide +kernel
theorem dX12_count_94 : decode cX12_count 94 = .ok (.iaload, 1) := by decide +kernel
theorem dX12_count_95 : decode cX12_count 95 = .ok (.ireturn, 1) := by decide +kernel
theorem dX12_count_96 : decode cX12_count 96 = .ok (.iconst (-1), 1) := by decide +kernel
theorem dX12_count_97 : decode cX12_count 97 = .ok (.ireturn, 1) := by decide +kernel
theorem dJ6_bitCount_0f7a4_0 : decode cJ6_bitCount_0f7a4 0 = .ok (.iload_n 0, 1) := by decide +kernel
theorem dJ6_bitCount_0f7a4_1 : decode cJ6_bitCount_0f7a4 1 = .ok (.iload_n 0, 1) := by decide +kernel
theorem dJ6_bitCount_0f7a4_2 : decode cJ6_bitCount_0f7a4 2 = .ok (.iconst 1, 1) := by decide +kernel
theorem dJ6_bitCount_0f7a4_3 : decode cJ6_bitCount_0f7a4 3 = .ok (.iushr, 1) := by decide +kernel
theorem dJ6_bitCount_0f7a4_4 : decode cJ6_bitCount_0f7a4 4 = .ok (.ldc_w 265, 3) := by decide +kernel
theorem dJ6_bitCount_0f7a4_7 : decode cJ6_bitCount_0f7a4 7 = .ok (.iand, 1) := by decide +kernel
theorem dJ6_bitCount_0f7a4_8 : decode cJ6_bitCount_0f7a4 8 = .ok (.isub, 1) := by decide +kernel
theorem dJ6_bitCount_0f7a4_9 : decode cJ6_bitCount_0f7a4 9 = .ok (.istore_n 0, 1) := by decide +kernel
theorem dJ6_bitCount_0f7a4_10 : decode cJ6_bitCount_0f7a4 10 = .ok (.iload_n 0, 1) := by decide +kernel
theorem dJ6_bitCount_0f7a4_11 : decode cJ6_bitCount_0f7a4 11 = .ok (.ldc_w 266, 3) := by decide +kernel
theorem dJ6_bitCount_0f7a4_14 : decode cJ6_bitCount_0f7a4 14 = .ok (.iand, 1) := by decide +kernel
theorem dJ6_bitCount_0f7a4_15 : decode cJ6_bitCount_0f7a4 15 = .ok (.iload_n 0, 1) := by decide +kernel
theorem dJ6_bitCount_0f7a4_16 : decode cJ6_bitCount_0f7a4 16 = .ok (.iconst 2, 1) := by decide +kernel
theorem dJ6_bitCount_0f7a4_17 : decode cJ6_bitCount_0f7a4 17 = .ok (.iushr, 1) := by decide +kernel
theorem dJ6_bitCount_0f7a4_18 : decode cJ6_bitCount_0f7a4 18 = .ok (.ldc_w 266, 3) := by decide +kernel
theorem dJ6_bitCount_0f7a4_21 : decode cJ6_bitCount_0f7a4 21 = .ok (.iand, 1) := by decide +kernel
theorem dJ6_bitCount_0f7a4_22 : decode cJ6_bitCount_0f7a4 22 = .ok (.iadd, 1) := by decide +kernel
theorem dJ6_bitCount_0f7a4_23 : decode cJ6_bitCount_0f7a4 23 = .ok (.istore_n 0, 1) := by decide +kernel
theorem dJ6_bitCount_0f7a4_24 : decode cJ6_bitCount_0f7a4 24 = .ok (.iload_n 0, 1) := by decide +kernel
theorem dJ6_bitCount_0f7a4_25 : decode cJ6_bitCount_0f7a4 25 = .ok (.iload_n 0, 1) := by decide +kernel
theorem dJ6_bitCount_0f7a4_26 : decode cJ6_bitCount_0f7a4 26 = .ok (.iconst 4, 1) := by decide +kernel
theorem dJ6_bitCount_0f7a4_27 : decode cJ6_bitCount_0f7a4 27 = .ok (.iushr, 1) := by decide +kernel
theorem dJ6_bitCount_0f7a4_28 : decode cJ6_bitCount_0f7a4 28 = .ok (.iadd, 1) := by decide +kernel
theorem dJ6_bitCount_0f7a4_29 : decode cJ6_bitCount_0f7a4 29 = .ok (.ldc_w 267, 3) := by decide +kernel
theorem dJ6_bitCount_0f7a4_32 : decode cJ6_bitCount_0f7a4 32 = .ok (.iand, 1) := by decide +kernel
theorem dJ6_bitCount_0f7a4_33 : decode cJ6_bitCount_0f7a4 33 = .ok (.istore_n 0, 1) := by decide +kernel
theorem dJ6_bitCount_0f7a4_34 : decode cJ6_bitCount_0f7a4 34 = .ok (.iload_n 0, 1) := by decide +kernel
theorem dJ6_bitCount_0f7a4_35 : decode cJ6_bitCount_0f7a4 35 = .ok (.iload_n 0, 1) := by decide +kernel
theorem dJ6_bitCount_0f7a4_36 : decode cJ6_bitCount_0f7a4 36 = .ok (.bipush 8, 2) := by decide +kernel
theorem dJ6_bitCount_0f7a4_38 : decode cJ6_bitCount_0f7a4 38 = .ok (.iushr, 1) := by decide +kernel
theorem dJ6_bitCount_0f7a4_39 : decode cJ6_bitCount_0f7a4 39 = .ok (.iadd, 1) := by decide +kernel
theorem dJ6_bitCount_0f7a4_40 : decode cJ6_bitCount_0f7a4 40 = .ok (.istore_n 0, 1) := by decide +kernel
theorem dJ6_bitCount_0f7a4_41 : decode cJ6_bitCount_0f7a4 41 = .ok (.iload_n 0, 1) := by decide +kernel
theorem dJ6_bitCount_0f7a4_42 : decode cJ6_bitCount_0f7a4 42 = .ok (.iload_n 0, 1) := by decide +kernel
theorem dJ6_bitCount_0f7a4_43 : decode cJ6_bitCount_0f7a4 43 = .ok (.bipush 16, 2) := by decide +kernel
theorem dJ6_bitCount_0f7a4_45 : decode cJ6_bitCount_0f7a4 45 = .ok (.iushr, 1) := by decide +kernel
theorem dJ6_bitCount_0f7a4_46 : decode cJ6_bitCount_0f7a4 46 = .ok (.iadd, 1) := by decide +kernel
theorem dJ6_bitCount_0f7a4_47 : decode cJ6_bitCount_0f7a4 47 = .ok (.istore_n 0, 1) := by decide +kernel
theorem dJ6_bitCount_0f7a4_48 : decode cJ6_bitCount_0f7a4 48 = .ok (.iload_n 0, 1) := by decide +kernel
theorem dJ6_bitCount_0f7a4_49 : decode cJ6_bitCount_0f7a4 49 = .ok (.bipush 63, 2) := by decide +kernel
theorem dJ6_bitCount_0f7a4_51 : decode cJ6_bitCount_0f7a4 51 = .ok (.iand, 1) := by decide +kernel
theorem dJ6_bitCount_0f7a4_52 : decode cJ6_bitCount_0f7a4 52 = .ok (.ireturn, 1) := by decide +kernel
theorem dJ9_abs_0f7a4_0 : decode cJ9_abs_0f7a4 0 = .ok (.iload_n 0, 1) := by decide +kernel
theorem dJ9_abs_0f7a4_1 : decode cJ9_abs_0f7a4 1 = .ok (.ifCond .ge 8, 3) := by decide +kernel
theorem dJ9_abs_0f7a4_4 : decode cJ9_abs_0f7a4 4 = .ok (.iload_n 0, 1) := by decide +kernel
theorem dJ9_abs_0f7a4_5 : decode cJ9_abs_0f7a4 5 = .ok (.ineg, 1) := by decide +kernel
theorem dJ9_abs_0f7a4_6 : decode cJ9_abs_0f7a4 6 = .ok (.goto 4, 3) := by decide +kernel
theorem dJ9_abs_0f7a4_9 : decode cJ9_abs_0f7a4 9 = .ok (.iload_n 0, 1) := by decide +kernel
theorem dJ9_abs_0f7a4_10 : decode cJ9_abs_0f7a4 10 = .ok (.ireturn, 1) := by decide +kernel
theorem dJ9_max_7cf53_0 : decode cJ9_max_7cf53 0 = .ok (.iload_n 0, 1) := by decide +kernel
theorem dJ9_max_7cf53_1 : decode cJ9_max_7cf53 1 = .ok (.iload_n 1, 1) := by decide +kernel
theorem dJ9_max_7cf53_2 : decode cJ9_max_7cf53 2 = .ok (.if_icmp .lt 7, 3) := by decide +kernel
theorem dJ9_max_7cf53_5 : decode cJ9_max_7cf53 5 = .ok (.iload_n 0, 1) := by decide +kernel
theorem dJ9_max_7cf53_6 : decode cJ9_max_7cf53 6 = .ok (.goto 4, 3) := by decide +kernel
theorem dJ9_max_7cf53_9 : decode cJ9_max_7cf53 9 = .ok (.iload_n 1, 1) := by decide +kernel
theorem dJ9_max_7cf53_10 : decode cJ9_max_7cf53 10 = .ok (.ireturn, 1) := by decide +kernel
theorem dJ9_min_7cf53_0 : decode cJ9_min_7cf53 0 = .ok (.iload_n 0, 1) := by decide +kernel
theorem dJ9_min_7cf53_1 : decode cJ9_min_7cf53 1 = .ok (.iload_n 1, 1) := by decide +kernel
theorem dJ9_min_7cf53_2 : decode cJ9_min_7cf53 2 = .ok (.if_icmp .gt 7, 3) := by decide +kernel
theorem dJ9_min_7cf53_5 : decode cJ9_min_7cf53 5 = .ok (.iload_n 0, 1) := by decide +kernel
theorem dJ9_min_7cf53_6 : decode cJ9_min_7cf53 6 = .ok (.goto 4, 3) := by decide +kernel
theorem dJ9_min_7cf53_9 : decode cJ9_min_7cf53 9 = .ok (.iload_n 1, 1) := by decide +kernel
theorem dJ9_min_7cf53_10 : decode cJ9_min_7cf53 10 = .ok (.ireturn, 1) := by decide +kernel
theorem dL_law_0 : decode cL_law 0 = .ok (.new 7, 3) := by decide +kernel
theorem dL_law_3 : decode cL_law 3 = .ok (.dup, 1) := by decide +kernel
theorem dL_law_4 : decode cL_law 4 = .ok (.invokespecial 9, 3) := by decide +kernel
theorem dL_law_7 : decode cL_law 7 = .ok (.astore_n 1, 1) := by decide +kernel
theorem dL_law_8 : decode cL_law 8 = .ok (.new 10, 3) := by decide +kernel
theorem dL_law_11 : decode cL_law 11 = .ok (.dup, 1) := by decide +kernel
theorem dL_law_12 : decode cL_law 12 = .ok (.invokespecial 12, 3) := by decide +kernel
theorem dL_law_15 : decode cL_law 15 = .ok (.astore_n 2, 1) := by decide +kernel
theorem dL_law_16 : decode cL_law 16 = .ok (.iconst 0, 1) := by decide +kernel
theorem dL_law_17 : decode cL_law 17 = .ok (.istore_n 3, 1) := by decide +kernel
theorem dL_law_18 : decode cL_law 18 = .ok (.iload_n 3, 1) := by decide +kernel
theorem dL_law_19 : decode cL_law 19 = .ok (.aload_n 0, 1) := by decide +kernel
theorem dL_law_20 : decode cL_law 20 = .ok (.arraylength, 1) := by decide +kernel
theorem dL_law_21 : decode cL_law 21 = .ok (.bipush 6, 2) := by decide +kernel
theorem dL_law_23 : decode cL_law 23 = .ok (.isub, 1) := by decide +kernel
theorem dL_law_24 : decode cL_law 24 = .ok (.if_icmp .gt 964, 3) := by decide +kernel
theorem dL_law_27 : decode cL_law 27 = .ok (.aload_n 0, 1) := by decide +kernel
theorem dL_law_28 : decode cL_law 28 = .ok (.iload_n 3, 1) := by decide +kernel
theorem dL_law_29 : decode cL_law 29 = .ok (.iaload, 1) := by decide +kernel
theorem dL_law_30 : decode cL_law 30 = .ok (.bipush 31, 2) := by decide +kernel
theorem dL_law_32 : decode cL_law 32 = .ok (.iand, 1) := by decide +kernel
theorem dL_law_33 : decode cL_law 33 = .ok (.tableswitch 949 0 28 #[131, 194, 217, 250, 273, 296, 329, 362, 395, 428, 451, 464, 487, 530, 553, 586, 609, 642, 655, 688, 721, 754, 777, 821, 854, 877, 890, 903, 926], 131) := by decide +kernel
theorem dL_law_164 : decode cL_law 164 = .ok (.aload_n 1, 1) := by decide +kernel
theorem dL_law_165 : decode cL_law 165 = .ok (.aload_n 0, 1) := by decide +kernel
theorem dL_law_166 : decode cL_law 166 = .ok (.iload_n 3, 1) := by decide +kernel
theorem dL_law_167 : decode cL_law 167 = .ok (.iconst 1, 1) := by decide +kernel
theorem dL_law_168 : decode cL_law 168 = .ok (.iadd, 1) := by decide +kernel
theorem dL_law_169 : decode cL_law 169 = .ok (.iaload, 1) := by decide +kernel
theorem dL_law_170 : decode cL_law 170 = .ok (.aload_n 0, 1) := by decide +kernel
theorem dL_law_171 : decode cL_law 171 = .ok (.iload_n 3, 1) := by decide +kernel
theorem dL_law_172 : decode cL_law 172 = .ok (.iconst 2, 1) := by decide +kernel
theorem dL_law_173 : decode cL_law 173 = .ok (.iadd, 1) := by decide +kernel
theorem dL_law_174 : decode cL_law 174 = .ok (.iaload, 1) := by decide +kernel
theorem dL_law_175 : decode cL_law 175 = .ok (.aload_n 0, 1) := by decide +kernel
theorem dL_law_176 : decode cL_law 176 = .ok (.iload_n 3, 1) := by decide +kernel
theorem dL_law_177 : decode cL_law 177 = .ok (.iconst 3, 1) := by decide +kernel
theorem dL_law_178 : decode cL_law 178 = .ok (.iadd, 1) := by decide +kernel
theorem dL_law_179 : decode cL_law 179 = .ok (.iaload, 1) := by decide +kernel
theorem dL_law_180 : decode cL_law 180 = .ok (.aload_n 0, 1) := by decide +kernel
theorem dL_law_181 : decode cL_law 181 = .ok (.iload_n 3, 1) := by decide +kernel
theorem dL_law_182 : decode cL_law 182 = .ok (.iconst 4, 1) := by decide +kernel
theorem dL_law_183 : decode cL_law 183 = .ok (.iadd, 1) := by decide +kernel
theorem dL_law_184 : decode cL_law 184 = .ok (.iaload, 1) := by decide +kernel
theorem dL_law_185 : decode cL_law 185 = .ok (.aload_n 0, 1) := by decide +kernel
theorem dL_law_186 : decode cL_law 186 = .ok (.iload_n 3, 1) := by decide +kernel
theorem dL_law_187 : decode cL_law 187 = .ok (.iconst 5, 1) := by decide +kernel
theorem dL_law_188 : decode cL_law 188 = .ok (.iadd, 1) := by decide +kernel
theorem dL_law_189 : decode cL_law 189 = .ok (.iaload, 1) := by decide +kernel
theorem dL_law_190 : decode cL_law 190 = .ok (.invokevirtual 13, 3) := by decide +kernel
theorem dL_law_193 : decode cL_law 193 = .ok (.aload_n 2, 1) := by decide +kernel
theorem dL_law_194 : decode cL_law 194 = .ok (.aload_n 0, 1) := by decide +kernel
theorem dL_law_195 : decode cL_law 195 = .ok (.iload_n 3, 1) := by decide +kernel
theorem dL_law_196 : decode cL_law 196 = .ok (.iconst 1, 1) := by decide +kernel
theorem dL_law_197 : decode cL_law 197 = .ok (.iadd, 1) := by decide +kernel
theorem dL_law_198 : decode cL_law 198 = .ok (.iaload, 1) := by decide +kernel
theorem dL_law_199 : decode cL_law 199 = .ok (.aload_n 0, 1) := by decide +kernel
theorem dL_law_200 : decode cL_law 200 = .ok (.iload_n 3, 1) := by decide +kernel
theorem dL_law_201 : decode cL_law 201 = .ok (.iconst 2, 1) := by decide +kernel
theorem dL_law_202 : decode cL_law 202 = .ok (.iadd, 1) := by decide +kernel
theorem dL_law_203 : decode cL_law 203 = .ok (.iaload, 1) := by decide +kernel
theorem dL_law_204 : decode cL_law 204 = .ok (.aload_n 0, 1) := by decide +kernel
theorem dL_law_205 : decode cL_law 205 = .ok (.iload_n 3, 1) := by decide +kernel
theorem dL_law_206 : decode cL_law 206 = .ok (.iconst 3, 1) := by decide +kernel
theorem dL_law_207 : decode cL_law 207 = .ok (.iadd, 1) := by decide +kernel
theorem dL_law_208 : decode cL_law 208 = .ok (.iaload, 1) := by decide +kernel
theorem dL_law_209 : decode cL_law 209 = .ok (.aload_n 0, 1) := by decide +kernel
theorem dL_law_210 : decode cL_law 210 = .ok (.iload_n 3, 1) := by decide +kernel
theorem dL_law_211 : decode cL_law 211 = .ok (.iconst 4, 1) := by decide +kernel
theorem dL_law_212 : decode cL_law 212 = .ok (.iadd, 1) := by decide +kernel
theorem dL_law_213 : decode cL_law 213 = .ok (.iaload, 1) := by decide +kernel
theorem dL_law_214 : decode cL_law 214 = .ok (.aload_n 0, 1) := by decide +kernel
theorem dL_law_215 : decode cL_law 215 = .ok (.iload_n 3, 1) := by decide +kernel
theorem dL_law_216 : decode cL_law 216 = .ok (.iconst 5, 1) := by decide +kernel
theorem dL_law_217 : decode cL_law 217 = .ok (.iadd, 1) := by decide +kernel
theorem dL_law_218 : decode cL_law 218 = .ok (.iaload, 1) := by decide +kernel
theorem dL_law_219 : decode cL_law 219 = .ok (.invokevirtual 17, 3) := by decide +kernel
theorem dL_law_222 : decode cL_law 222 = .ok (.if_icmp .eq 760, 3) := by decide +kernel
theorem dL_law_225 : decode cL_law 225 = .ok (.iconst 0, 1) := by decide +kernel
theorem dL_law_226 : decode cL_law 226 = .ok (.ireturn, 1) := by decide +kernel
theorem dL_law_227 : decode cL_law 227 = .ok (.aload_n 1, 1) := by decide +kernel
theorem dL_law_228 : decode cL_law 228 = .ok (.aload_n 0, 1) := by decide +kernel
theorem dL_law_229 : decode cL_law 229 = .ok (.iload_n 3, 1) := by decide +kernel
theorem dL_law_230 : decode cL_law 230 = .ok (.iconst 1, 1) := by decide +kernel
theorem dL_law_231 : decode cL_law 231 = .ok (.iadd, 1) := by decide +kernel
theorem dL_law_232 : decode cL_law 232 = .ok (.iaload, 1) := by decide +kernel
theorem dL_law_233 : decode cL_law 233 = .ok (.invokevirtual 18, 3) := by decide +kernel
theorem dL_law_236 : decode cL_law 236 = .ok (.aload_n 2, 1) := by decide +kernel
theorem dL_law_237 : decode cL_law 237 = .ok (.aload_n 0, 1) := by decide +kernel
theorem dL_law_238 : decode cL_law 238 = .ok (.iload_n 3, 1) := by decide +kernel
theorem dL_law_239 : decode cL_law 239 = .ok (.iconst 1, 1) := by decide +kernel
theorem dL_law_240 : decode cL_law 240 = .ok (.iadd, 1) := by decide +kernel
theorem dL_law_241 : decode cL_law 241 = .ok (.iaload, 1) := by decide +kernel
theorem dL_law_242 : decode cL_law 242 = .ok (.invokevirtual 22, 3) := by decide +kernel
theorem dL_law_245 : decode cL_law 245 = .ok (.if_icmp .eq 737, 3) := by decide +kernel
theorem dL_law_248 : decode cL_law 248 = .ok (.iconst 0, 1) := by decide +kernel
theorem dL_law_249 : decode cL_law 249 = .ok (.ireturn, 1) := by decide +kernel
theorem dL_law_250 : decode cL_law 250 = .ok (.aload_n 1, 1) := by decide +kernel
theorem dL_law_251 : decode cL_law 251 = .ok (.aload_n 0, 1) := by decide +kernel
theorem dL_law_252 : decode cL_law 252 = .ok (.iload_n 3, 1) := by decide +kernel
theorem dL_law_253 : decode cL_law 253 = .ok (.iconst 1, 1) := by decide +kernel
theorem dL_law_254 : decode cL_law 254 = .ok (.iadd, 1) := by decide +kernel
theorem dL_law_255 : decode cL_law 255 = .ok (.iaload, 1) := by decide +kernel
theorem dL_law_256 : decode cL_law 256 = .ok (.aload_n 0, 1) := by decide +kernel
theorem dL_law_257 : decode cL_law 257 = .ok (.iload_n 3, 1) := by decide +kernel
theorem dL_law_258 : decode cL_law 258 = .ok (.iconst 2, 1) := by decide +kernel
theorem dL_law_259 : decode cL_law 259 = .ok (.iadd, 1) := by decide +kernel
theorem dL_law_260 : decode cL_law 260 = .ok (.iaload, 1) := by decide +kernel
theorem dL_law_261 : decode cL_law 261 = .ok (.invokevirtual 23, 3) := by decide +kernel
theorem dL_law_264 : decode cL_law 264 = .ok (.aload_n 2, 1) := by decide +kernel
theorem dL_law_265 : decode cL_law 265 = .ok (.aload_n 0, 1) := by decide +kernel
theorem dL_law_266 : decode cL_law 266 = .ok (.iload_n 3, 1) := by decide +kernel
theorem dL_law_267 : decode cL_law 267 = .ok (.iconst 1, 1) := by decide +kernel
theorem dL_law_268 : decode cL_law 268 = .ok (.iadd, 1) := by decide +kernel
theorem dL_law_269 : decode cL_law 269 = .ok (.iaload, 1) := by decide +kernel
theorem dL_law_270 : decode cL_law 270 = .ok (.aload_n 0, 1) := by decide +kernel
theorem dL_law_271 : decode cL_law 271 = .ok (.iload_n 3, 1) := by decide +kernel
theorem dL_law_272 : decode cL_law 272 = .ok (.iconst 2, 1) := by decide +kernel
theorem dL_law_273 : decode cL_law 273 = .ok (.iadd, 1) := by decide +kernel
theorem dL_law_274 : decode cL_law 274 = .ok (.iaload, 1) := by decide +kernel
theorem dL_law_275 : decode cL_law 275 = .ok (.invokevirtual 27, 3) := by decide +kernel
theorem dL_law_278 : decode cL_law 278 = .ok (.if_icmp .eq 704, 3) := by decide +kernel
theorem dL_law_281 : decode cL_law 281 = .ok (.iconst 0, 1) := by decide +kernel
theorem dL_law_282 : decode cL_law 282 = .ok (.ireturn, 1) := by decide +kernel
theorem dL_law_283 : decode cL_law 283 = .ok (.aload_n 1, 1) := by decide +kernel
theorem dL_law_284 : decode cL_law 284 = .ok (.aload_n 0, 1) := by decide +kernel
theorem dL_law_285 : decode cL_law 285 = .ok (.iload_n 3, 1) := by decide +kernel
theorem dL_law_286 : decode cL_law 286 = .ok (.iconst 1, 1) := by decide +kernel
theorem dL_law_287 : decode cL_law 287 = .ok (.iadd, 1) := by decide +kernel
theorem dL_law_288 : decode cL_law 288 = .ok (.iaload, 1) := by decide +kernel
theorem dL_law_289 : decode cL_law 289 = .ok (.invokevirtual 28, 3) := by decide +kernel
theorem dL_law_292 : decode cL_law 292 = .ok (.aload_n 2, 1) := by decide +kernel
theorem dL_law_293 : decode cL_law 293 = .ok (.aload_n 0, 1) := by decide +kernel
theorem dL_law_294 : decode cL_law 294 = .ok (.iload_n 3, 1) := by decide +kernel
theorem dL_law_295 : decode cL_law 295 = .ok (.iconst 1, 1) := by decide +kernel
theorem dL_law_296 : decode cL_law 296 = .ok (.iadd, 1) := by decide +kernel
theorem dL_law_297 : decode cL_law 297 = .ok (.iaload, 1) := by decide +kernel
theorem dL_law_298 : decode cL_law 298 = .ok (.invokevirtual 31, 3) := by decide +kernel
theorem dL_law_301 : decode cL_law 301 = .ok (.if_icmp .eq 681, 3) := by decide +kernel
theorem dL_law_304 : decode cL_law 304 = .ok (.iconst 0, 1) := by decide +kernel
theorem dL_law_305 : decode cL_law 305 = .ok (.ireturn, 1) := by decide +kernel
theorem dL_law_306 : decode cL_law 306 = .ok (.aload_n 1, 1) := by decide +kernel
theorem dL_law_307 : decode cL_law 307 = .ok (.aload_n 0, 1) := by decide +kernel
theorem dL_law_308 : decode cL_law 308 = .ok (.iload_n 3, 1) := by decide +kernel
theorem dL_law_309 : decode cL_law 309 = .ok (.iconst 1, 1) := by decide +kernel
theorem dL_law_310 : decode cL_law 310 = .ok (.iadd, 1) := by decide +kernel
theorem dL_law_311 : decode cL_law 311 = .ok (.iaload, 1) := by decide +kernel
theorem dL_law_312 : decode cL_law 312 = .ok (.invokevirtual 32, 3) := by decide +kernel
theorem dL_law_315 : decode cL_law 315 = .ok (.aload_n 2, 1) := by decide +kernel
theorem dL_law_316 : decode cL_law 316 = .ok (.aload_n 0, 1) := by decide +kernel
theorem dL_law_317 : decode cL_law 317 = .ok (.iload_n 3, 1) := by decide +kernel
theorem dL_law_318 : decode cL_law 318 = .ok (.iconst 1, 1) := by decide +kernel
theorem dL_law_319 : decode cL_law 319 = .ok (.iadd, 1) := by decide +kernel
theorem dL_law_320 : decode cL_law 320 = .ok (.iaload, 1) := by decide +kernel
theorem dL_law_321 : decode cL_law 321 = .ok (.invokevirtual 35, 3) := by decide +kernel
theorem dL_law_324 : decode cL_law 324 = .ok (.if_icmp .eq 658, 3) := by decide +kernel
theorem dL_law_327 : decode cL_law 327 = .ok (.iconst 0, 1) := by decide +kernel
theorem dL_law_328 : decode cL_law 328 = .ok (.ireturn, 1) := by decide +kernel
theorem dL_law_329 : decode cL_law 329 = .ok (.aload_n 1, 1) := by decide +kernel
theorem dL_law_330 : decode cL_law 330 = .ok (.aload_n 0, 1) := by decide +kernel
theorem dL_law_331 : decode cL_law 331 = .ok (.iload_n 3, 1) := by decide +kernel
theorem dL_law_332 : decode cL_law 332 = .ok (.iconst 1, 1) := by decide +kernel
theorem dL_law_333 : decode cL_law 333 = .ok (.iadd, 1) := by decide +kernel
theorem dL_law_334 : decode cL_law 334 = .ok (.iaload, 1) := by decide +kernel
theorem dL_law_335 : decode cL_law 335 = .ok (.aload_n 0, 1) := by decide +kernel
theorem dL_law_336 : decode cL_law 336 = .ok (.iload_n 3, 1) := by decide +kernel
theorem dL_law_337 : decode cL_law 337 = .ok (.iconst 2, 1) := by decide +kernel
theorem dL_law_338 : decode cL_law 338 = .ok (.iadd, 1) := by decide +kernel
theorem dL_law_339 : decode cL_law 339 = .ok (.iaload, 1) := by decide +kernel
theorem dL_law_340 : decode cL_law 340 = .ok (.invokevirtual 36, 3) := by decide +kernel
theorem dL_law_343 : decode cL_law 343 = .ok (.aload_n 2, 1) := by decide +kernel
theorem dL_law_344 : decode cL_law 344 = .ok (.aload_n 0, 1) := by decide +kernel
theorem dL_law_345 : decode cL_law 345 = .ok (.iload_n 3, 1) := by decide +kernel
theorem dL_law_346 : decode cL_law 346 = .ok (.iconst 1, 1) := by decide +kernel
theorem dL_law_347 : decode cL_law 347 = .ok (.iadd, 1) := by decide +kernel
theorem dL_law_348 : decode cL_law 348 = .ok (.iaload, 1) := by decide +kernel
theorem dL_law_349 : decode cL_law 349 = .ok (.aload_n 0, 1) := by decide +kernel
theorem dL_law_350 : decode cL_law 350 = .ok (.iload_n 3, 1) := by decide +kernel
theorem dL_law_351 : decode cL_law 351 = .ok (.iconst 2, 1) := by decide +kernel
theorem dL_law_352 : decode cL_law 352 = .ok (.iadd, 1) := by decide +kernel
theorem dL_law_353 : decode cL_law 353 = .ok (.iaload, 1) := by decide +kernel
theorem dL_law_354 : decode cL_law 354 = .ok (.invokevirtual 39, 3) := by decide +kernel
theorem dL_law_357 : decode cL_law 357 = .ok (.if_icmp .eq 625, 3) := by decide +kernel
theorem dL_law_360 : decode cL_law 360 = .ok (.iconst 0, 1) := by decide +kernel
theorem dL_law_361 : decode cL_law 361 = .ok (.ireturn, 1) := by decide +kernel
theorem dL_law_362 : decode cL_law 362 = .ok (.aload_n 1, 1) := by decide +kernel
theorem dL_law_363 : decode cL_law 363 = .ok (.aload_n 0, 1) := by decide +kernel
theorem dL_law_364 : decode cL_law 364 = .ok (.iload_n 3, 1) := by decide +kernel
theorem dL_law_365 : decode cL_law 365 = .ok (.iconst 1, 1) := by decide +kernel
theorem dL_law_366 : decode cL_law 366 = .ok (.iadd, 1) := by decide +kernel
theorem dL_law_367 : decode cL_law 367 = .ok (.iaload, 1) := by decide +kernel
theorem dL_law_368 : decode cL_law 368 = .ok (.aload_n 0, 1) := by decide +kernel
theorem dL_law_369 : decode cL_law 369 = .ok (.iload_n 3, 1) := by decide +kernel
theorem dL_law_370 : decode cL_law 370 = .ok (.iconst 2, 1) := by decide +kernel
theorem dL_law_371 : decode cL_law 371 = .ok (.iadd, 1) := by decide +kernel
theorem dL_law_372 : decode cL_law 372 = .ok (.iaload, 1) := by decide +kernel
theorem dL_law_373 : decode cL_law 373 = .ok (.invokevirtual 40, 3) := by decide +kernel
theorem dL_law_376 : decode cL_law 376 = .ok (.aload_n 2, 1) := by decide +kernel
theorem dL_law_377 : decode cL_law 377 = .ok (.aload_n 0, 1) := by decide +kernel
theorem dL_law_378 : decode cL_law 378 = .ok (.iload_n 3, 1) := by decide +kernel
theorem dL_law_379 : decode cL_law 379 = .ok (.iconst 1, 1) := by decide +kernel
theorem dL_law_380 : decode cL_law 380 = .ok (.iadd, 1) := by decide +kernel
theorem dL_law_381 : decode cL_law 381 = .ok (.iaload, 1) := by decide +kernel
theorem dL_law_382 : decode cL_law 382 = .ok (.aload_n 0, 1) := by decide +kernel
theorem dL_law_383 : decode cL_law 383 = .ok (.iload_n 3, 1) := by decide +kernel
theorem dL_law_384 : decode cL_law 384 = .ok (.iconst 2, 1) := by decide +kernel
theorem dL_law_385 : decode cL_law 385 = .ok (.iadd, 1) := by decide +kernel
theorem dL_law_386 : decode cL_law 386 = .ok (.iaload, 1) := by decide +kernel
theorem dL_law_387 : decode cL_law 387 = .ok (.invokevirtual 43, 3) := by decide +kernel
theorem dL_law_390 : decode cL_law 390 = .ok (.if_icmp .eq 592, 3) := by decide +kernel
theorem dL_law_393 : decode cL_law 393 = .ok (.iconst 0, 1) := by decide +kernel
theorem dL_law_394 : decode cL_law 394 = .ok (.ireturn, 1) := by decide +kernel
theorem dL_law_395 : decode cL_law 395 = .ok (.aload_n 1, 1) := by decide +kernel
theorem dL_law_396 : decode cL_law 396 = .ok (.aload_n 0, 1) := by decide +kernel
theorem dL_law_397 : decode cL_law 397 = .ok (.iload_n 3, 1) := by decide +kernel
theorem dL_law_398 : decode cL_law 398 = .ok (.iconst 1, 1) := by decide +kernel
theorem dL_law_399 : decode cL_law 399 = .ok (.iadd, 1) := by decide +kernel
theorem dL_law_400 : decode cL_law 400 = .ok (.iaload, 1) := by decide +kernel
theorem dL_law_401 : decode cL_law 401 = .ok (.aload_n 0, 1) := by decide +kernel
theorem dL_law_402 : decode cL_law 402 = .ok (.iload_n 3, 1) := by decide +kernel
theorem dL_law_403 : decode cL_law 403 = .ok (.iconst 2, 1) := by decide +kernel
theorem dL_law_404 : decode cL_law 404 = .ok (.iadd, 1) := by decide +kernel
theorem dL_law_405 : decode cL_law 405 = .ok (.iaload, 1) := by decide +kernel
theorem dL_law_406 : decode cL_law 406 = .ok (.invokevirtual 44, 3) := by decide +kernel
theorem dL_law_409 : decode cL_law 409 = .ok (.aload_n 2, 1) := by decide +kernel
theorem dL_law_410 : decode cL_law 410 = .ok (.aload_n 0, 1) := by decide +kernel
theorem dL_law_411 : decode cL_law 411 = .ok (.iload_n 3, 1) := by decide +kernel
theorem dL_law_412 : decode cL_law 412 = .ok (.iconst 1, 1) := by decide +kernel
theorem dL_law_413 : decode cL_law 413 = .ok (.iadd, 1) := by decide +kernel
theorem dL_law_414 : decode cL_law 414 = .ok (.iaload, 1) := by decide +kernel
theorem dL_law_415 : decode cL_law 415 = .ok (.aload_n 0, 1) := by decide +kernel
theorem dL_law_416 : decode cL_law 416 = .ok (.iload_n 3, 1) := by decide +kernel
theorem dL_law_417 : decode cL_law 417 = .ok (.iconst 2, 1) := by decide +kernel
theorem dL_law_418 : decode cL_law 418 = .ok (.iadd, 1) := by decide +kernel
theorem dL_law_419 : decode cL_law 419 = .ok (.iaload, 1) := by decide +kernel
theorem dL_law_420 : decode cL_law 420 = .ok (.invokevirtual 47, 3) := by decide +kernel
theorem dL_law_423 : decode cL_law 423 = .ok (.if_icmp .eq 559, 3) := by decide +kernel
theorem dL_law_426 : decode cL_law 426 = .ok (.iconst 0, 1) := by decide +kernel
theorem dL_law_427 : decode cL_law 427 = .ok (.ireturn, 1) := by decide +kernel
theorem dL_law_428 : decode cL_law 428 = .ok (.aload_n 1, 1) := by decide +kernel
theorem dL_law_429 : decode cL_law 429 = .ok (.aload_n 0, 1) := by decide +kernel
theorem dL_law_430 : decode cL_law 430 = .ok (.iload_n 3, 1) := by decide +kernel
theorem dL_law_431 : decode cL_law 431 = .ok (.iconst 1, 1) := by decide +kernel
theorem dL_law_432 : decode cL_law 432 = .ok (.iadd, 1) := by decide +kernel
theorem dL_law_433 : decode cL_law 433 = .ok (.iaload, 1) := by decide +kernel
theorem dL_law_434 : decode cL_law 434 = .ok (.aload_n 0, 1) := by decide +kernel
theorem dL_law_435 : decode cL_law 435 = .ok (.iload_n 3, 1) := by decide +kernel
theorem dL_law_436 : decode cL_law 436 = .ok (.iconst 2, 1) := by decide +kernel
theorem dL_law_437 : decode cL_law 437 = .ok (.iadd, 1) := by decide +kernel
theorem dL_law_438 : decode cL_law 438 = .ok (.iaload, 1) := by decide +kernel
theorem dL_law_439 : decode cL_law 439 = .ok (.invokevirtual 48, 3) := by decide +kernel
theorem dL_law_442 : decode cL_law 442 = .ok (.aload_n 2, 1) := by decide +kernel
theorem dL_law_443 : decode cL_law 443 = .ok (.aload_n 0, 1) := by decide +kernel
theorem dL_law_444 : decode cL_law 444 = .ok (.iload_n 3, 1) := by decide +kernel
theorem dL_law_445 : decode cL_law 445 = .ok (.iconst 1, 1) := by decide +kernel
theorem dL_law_446 : decode cL_law 446 = .ok (.iadd, 1) := by decide +kernel
theorem dL_law_447 : decode cL_law 447 = .ok (.iaload, 1) := by decide +kernel
theorem dL_law_448 : decode cL_law 448 = .ok (.aload_n 0, 1) := by decide +kernel
theorem dL_law_449 : decode cL_law 449 = .ok (.iload_n 3, 1) := by decide +kernel
theorem dL_law_450 : decode cL_law 450 = .ok (.iconst 2, 1) := by decide +kernel
theorem dL_law_451 : decode cL_law 451 = .ok (.iadd, 1) := by decide +kernel
theorem dL_law_452 : decode cL_law 452 = .ok (.iaload, 1) := by decide +kernel
theorem dL_law_453 : decode cL_law 453 = .ok (.invokevirtual 51, 3) := by decide +kernel
theorem dL_law_456 : decode cL_law 456 = .ok (.if_icmp .eq 526, 3) := by decide +kernel
theorem dL_law_459 : decode cL_law 459 = .ok (.iconst 0, 1) := by decide +kernel
theorem dL_law_460 : decode cL_law 460 = .ok (.ireturn, 1) := by decide +kernel
theorem dL_law_461 : decode cL_law 461 = .ok (.aload_n 1, 1) := by decide +kernel
theorem dL_law_462 : decode cL_law 462 = .ok (.aload_n 0, 1) := by decide +kernel
theorem dL_law_463 : decode cL_law 463 = .ok (.iload_n 3, 1) := by decide +kernel
theorem dL_law_464 : decode cL_law 464 = .ok (.iconst 1, 1) := by decide +kernel
theorem dL_law_465 : decode cL_law 465 = .ok (.iadd, 1) := by decide +kernel
theorem dL_law_466 : decode cL_law 466 = .ok (.iaload, 1) := by decide +kernel
theorem dL_law_467 : decode cL_law 467 = .ok (.invokevirtual 52, 3) := by decide +kernel
theorem dL_law_470 : decode cL_law 470 = .ok (.aload_n 2, 1) := by decide +kernel
theorem dL_law_471 : decode cL_law 471 = .ok (.aload_n 0, 1) := by decide +kernel
theorem dL_law_472 : decode cL_law 472 = .ok (.iload_n 3, 1) := by decide +kernel
theorem dL_law_473 : decode cL_law 473 = .ok (.iconst 1, 1) := by decide +kernel
theorem dL_law_474 : decode cL_law 474 = .ok (.iadd, 1) := by decide +kernel
theorem dL_law_475 : decode cL_law 475 = .ok (.iaload, 1) := by decide +kernel
theorem dL_law_476 : decode cL_law 476 = .ok (.invokevirtual 55, 3) := by decide +kernel
theorem dL_law_479 : decode cL_law 479 = .ok (.if_icmp .eq 503, 3) := by decide +kernel
theorem dL_law_482 : decode cL_law 482 = .ok (.iconst 0, 1) := by decide +kernel
theorem dL_law_483 : decode cL_law 483 = .ok (.ireturn, 1) := by decide +kernel
theorem dL_law_484 : decode cL_law 484 = .ok (.aload_n 1, 1) := by decide +kernel
theorem dL_law_485 : decode cL_law 485 = .ok (.invokevirtual 56, 3) := by decide +kernel
theorem dL_law_488 : decode cL_law 488 = .ok (.aload_n 2, 1) := by decide +kernel
theorem dL_law_489 : decode cL_law 489 = .ok (.invokevirtual 60, 3) := by decide +kernel
theorem dL_law_492 : decode cL_law 492 = .ok (.if_icmp .eq 490, 3) := by decide +kernel
theorem dL_law_495 : decode cL_law 495 = .ok (.iconst 0, 1) := by decide +kernel
theorem dL_law_496 : decode cL_law 496 = .ok (.ireturn, 1) := by decide +kernel
theorem dL_law_497 : decode cL_law 497 = .ok (.aload_n 1, 1) := by decide +kernel
theorem dL_law_498 : decode cL_law 498 = .ok (.aload_n 0, 1) := by decide +kernel
theorem dL_law_499 : decode cL_law 499 = .ok (.iload_n 3, 1) := by decide +kernel
theorem dL_law_500 : decode cL_law 500 = .ok (.iconst 1, 1) := by decide +kernel
theorem dL_law_501 : decode cL_law 501 = .ok (.iadd, 1) := by decide +kernel
theorem dL_law_502 : decode cL_law 502 = .ok (.iaload, 1) := by decide +kernel
theorem dL_law_503 : decode cL_law 503 = .ok (.invokevirtual 61, 3) := by decide +kernel
theorem dL_law_506 : decode cL_law 506 = .ok (.aload_n 2, 1) := by decide +kernel
theorem dL_law_507 : decode cL_law 507 = .ok (.aload_n 0, 1) := by decide +kernel
theorem dL_law_508 : decode cL_law 508 = .ok (.iload_n 3, 1) := by decide +kernel
theorem dL_law_509 : decode cL_law 509 = .ok (.iconst 1, 1) := by decide +kernel
theorem dL_law_510 : decode cL_law 510 = .ok (.iadd, 1) := by decide +kernel
theorem dL_law_511 : decode cL_law 511 = .ok (.iaload, 1) := by decide +kernel
theorem dL_law_512 : decode cL_law 512 = .ok (.invokevirtual 64, 3) := by decide +kernel
theorem dL_law_515 : decode cL_law 515 = .ok (.if_icmp .eq 467, 3) := by decide +kernel
theorem dL_law_518 : decode cL_law 518 = .ok (.iconst 0, 1) := by decide +kernel
theorem dL_law_519 : decode cL_law 519 = .ok (.ireturn, 1) := by decide +kernel
theorem dL_law_520 : decode cL_law 520 = .ok (.aload_n 1, 1) := by decide +kernel
theorem dL_law_521 : decode cL_law 521 = .ok (.aload_n 0, 1) := by decide +kernel
theorem dL_law_522 : decode cL_law 522 = .ok (.iload_n 3, 1) := by decide +kernel
theorem dL_law_523 : decode cL_law 523 = .ok (.iconst 1, 1) := by decide +kernel
theorem dL_law_524 : decode cL_law 524 = .ok (.iadd, 1) := by decide +kernel
theorem dL_law_525 : decode cL_law 525 = .ok (.iaload, 1) := by decide +kernel
theorem dL_law_526 : decode cL_law 526 = .ok (.aload_n 0, 1) := by decide +kernel
theorem dL_law_527 : decode cL_law 527 = .ok (.iload_n 3, 1) := by decide +kernel
theorem dL_law_528 : decode cL_law 528 = .ok (.iconst 2, 1) := by decide +kernel
theorem dL_law_529 : decode cL_law 529 = .ok (.iadd, 1) := by decide +kernel
theorem dL_law_530 : decode cL_law 530 = .ok (.iaload, 1) := by decide +kernel
theorem dL_law_531 : decode cL_law 531 = .ok (.aload_n 0, 1) := by decide +kernel
theorem dL_law_532 : decode cL_law 532 = .ok (.iload_n 3, 1) := by decide +kernel
theorem dL_law_533 : decode cL_law 533 = .ok (.iconst 3, 1) := by decide +kernel
theorem dL_law_534 : decode cL_law 534 = .ok (.iadd, 1) := by decide +kernel
theorem dL_law_535 : decode cL_law 535 = .ok (.iaload, 1) := by decide +kernel
theorem dL_law_536 : decode cL_law 536 = .ok (.invokevirtual 65, 3) := by decide +kernel
theorem dL_law_539 : decode cL_law 539 = .ok (.aload_n 2, 1) := by decide +kernel
theorem dL_law_540 : decode cL_law 540 = .ok (.aload_n 0, 1) := by decide +kernel
theorem dL_law_541 : decode cL_law 541 = .ok (.iload_n 3, 1) := by decide +kernel
theorem dL_law_542 : decode cL_law 542 = .ok (.iconst 1, 1) := by decide +kernel
theorem dL_law_543 : decode cL_law 543 = .ok (.iadd, 1) := by decide +kernel
theorem dL_law_544 : decode cL_law 544 = .ok (.iaload, 1) := by decide +kernel
theorem dL_law_545 : decode cL_law 545 = .ok (.aload_n 0, 1) := by decide +kernel
theorem dL_law_546 : decode cL_law 546 = .ok (.iload_n 3, 1) := by decide +kernel
theorem dL_law_547 : decode cL_law 547 = .ok (.iconst 2, 1) := by decide +kernel
theorem dL_law_548 : decode cL_law 548 = .ok (.iadd, 1) := by decide +kernel
theorem dL_law_549 : decode cL_law 549 = .ok (.iaload, 1) := by decide +kernel
theorem dL_law_550 : decode cL_law 550 = .ok (.aload_n 0, 1) := by decide +kernel
theorem dL_law_551 : decode cL_law 551 = .ok (.iload_n 3, 1) := by decide +kernel
theorem dL_law_552 : decode cL_law 552 = .ok (.iconst 3, 1) := by decide +kernel
theorem dL_law_553 : decode cL_law 553 = .ok (.iadd, 1) := by decide +kernel
theorem dL_law_554 : decode cL_law 554 = .ok (.iaload, 1) := by decide +kernel
theorem dL_law_555 : decode cL_law 555 = .ok (.invokevirtual 69, 3) := by decide +kernel
theorem dL_law_558 : decode cL_law 558 = .ok (.if_icmp .eq 424, 3) := by decide +kernel
theorem dL_law_561 : decode cL_law 561 = .ok (.iconst 0, 1) := by decide +kernel
theorem dL_law_562 : decode cL_law 562 = .ok (.ireturn, 1) := by decide +kernel
theorem dL_law_563 : decode cL_law 563 = .ok (.aload_n 1, 1) := by decide +kernel
theorem dL_law_564 : decode cL_law 564 = .ok (.aload_n 0, 1) := by decide +kernel
theorem dL_law_565 : decode cL_law 565 = .ok (.iload_n 3, 1) := by decide +kernel
theorem dL_law_566 : decode cL_law 566 = .ok (.iconst 1, 1) := by decide +kernel
theorem dL_law_567 : decode cL_law 567 = .ok (.iadd, 1) := by decide +kernel
theorem dL_law_568 : decode cL_law 568 = .ok (.iaload, 1) := by decide +kernel
theorem dL_law_569 : decode cL_law 569 = .ok (.invokevirtual 70, 3) := by decide +kernel
theorem dL_law_572 : decode cL_law 572 = .ok (.aload_n 2, 1) := by decide +kernel
theorem dL_law_573 : decode cL_law 573 = .ok (.aload_n 0, 1) := by decide +kernel
theorem dL_law_574 : decode cL_law 574 = .ok (.iload_n 3, 1) := by decide +kernel
theorem dL_law_575 : decode cL_law 575 = .ok (.iconst 1, 1) := by decide +kernel
theorem dL_law_576 : decode cL_law 576 = .ok (.iadd, 1) := by decide +kernel
theorem dL_law_577 : decode cL_law 577 = .ok (.iaload, 1) := by decide +kernel
theorem dL_law_578 : decode cL_law 578 = .ok (.invokevirtual 73, 3) := by decide +kernel
theorem dL_law_581 : decode cL_law 581 = .ok (.if_icmp .eq 401, 3) := by decide +kernel
theorem dL_law_584 : decode cL_law 584 = .ok (.iconst 0, 1) := by decide +kernel
theorem dL_law_585 : decode cL_law 585 = .ok (.ireturn, 1) := by decide +kernel
theorem dL_law_586 : decode cL_law 586 = .ok (.aload_n 1, 1) := by decide +kernel
theorem dL_law_587 : decode cL_law 587 = .ok (.aload_n 0, 1) := by decide +kernel
theorem dL_law_588 : decode cL_law 588 = .ok (.iload_n 3, 1) := by decide +kernel
theorem dL_law_589 : decode cL_law 589 = .ok (.iconst 1, 1) := by decide +kernel
theorem dL_law_590 : decode cL_law 590 = .ok (.iadd, 1) := by decide +kernel
theorem dL_law_591 : decode cL_law 591 = .ok (.iaload, 1) := by decide +kernel
theorem dL_law_592 : decode cL_law 592 = .ok (.aload_n 0, 1) := by decide +kernel
theorem dL_law_593 : decode cL_law 593 = .ok (.iload_n 3, 1) := by decide +kernel
theorem dL_law_594 : decode cL_law 594 = .ok (.iconst 2, 1) := by decide +kernel
theorem dL_law_595 : decode cL_law 595 = .ok (.iadd, 1) := by decide +kernel
theorem dL_law_596 : decode cL_law 596 = .ok (.iaload, 1) := by decide +kernel
theorem dL_law_597 : decode cL_law 597 = .ok (.invokevirtual 74, 3) := by decide +kernel
theorem dL_law_600 : decode cL_law 600 = .ok (.aload_n 2, 1) := by decide +kernel
theorem dL_law_601 : decode cL_law 601 = .ok (.aload_n 0, 1) := by decide +kernel
theorem dL_law_602 : decode cL_law 602 = .ok (.iload_n 3, 1) := by decide +kernel
theorem dL_law_603 : decode cL_law 603 = .ok (.iconst 1, 1) := by decide +kernel
theorem dL_law_604 : decode cL_law 604 = .ok (.iadd, 1) := by decide +kernel
theorem dL_law_605 : decode cL_law 605 = .ok (.iaload, 1) := by decide +kernel
theorem dL_law_606 : decode cL_law 606 = .ok (.aload_n 0, 1) := by decide +kernel
theorem dL_law_607 : decode cL_law 607 = .ok (.iload_n 3, 1) := by decide +kernel
theorem dL_law_608 : decode cL_law 608 = .ok (.iconst 2, 1) := by decide +kernel
theorem dL_law_609 : decode cL_law 609 = .ok (.iadd, 1) := by decide +kernel
theorem dL_law_610 : decode cL_law 610 = .ok (.iaload, 1) := by decide +kernel
theorem dL_law_611 : decode cL_law 611 = .ok (.invokevirtual 77, 3) := by decide +kernel
theorem dL_law_614 : decode cL_law 614 = .ok (.if_icmp .eq 368, 3) := by decide +kernel
theorem dL_law_617 : decode cL_law 617 = .ok (.iconst 0, 1) := by decide +kernel
theorem dL_law_618 : decode cL_law 618 = .ok (.ireturn, 1) := by decide +kernel
theorem dL_law_619 : decode cL_law 619 = .ok (.aload_n 1, 1) := by decide +kernel
theorem dL_law_620 : decode cL_law 620 = .ok (.aload_n 0, 1) := by decide +kernel
theorem dL_law_621 : decode cL_law 621 = .ok (.iload_n 3, 1) := by decide +kernel
theorem dL_law_622 : decode cL_law 622 = .ok (.iconst 1, 1) := by decide +kernel
theorem dL_law_623 : decode cL_law 623 = .ok (.iadd, 1) := by decide +kernel
theorem dL_law_624 : decode cL_law 624 = .ok (.iaload, 1) := by decide +kernel
theorem dL_law_625 : decode cL_law 625 = .ok (.invokevirtual 78, 3) := by decide +kernel
theorem dL_law_628 : decode cL_law 628 = .ok (.aload_n 2, 1) := by decide +kernel
theorem dL_law_629 : decode cL_law 629 = .ok (.aload_n 0, 1) := by decide +kernel
theorem dL_law_630 : decode cL_law 630 = .ok (.iload_n 3, 1) := by decide +kernel
theorem dL_law_631 : decode cL_law 631 = .ok (.iconst 1, 1) := by decide +kernel
theorem dL_law_632 : decode cL_law 632 = .ok (.iadd, 1) := by decide +kernel
theorem dL_law_633 : decode cL_law 633 = .ok (.iaload, 1) := by decide +kernel
theorem dL_law_634 : decode cL_law 634 = .ok (.invokevirtual 81, 3) := by decide +kernel
theorem dL_law_637 : decode cL_law 637 = .ok (.if_icmp .eq 345, 3) := by decide +kernel
theorem dL_law_640 : decode cL_law 640 = .ok (.iconst 0, 1) := by decide +kernel
theorem dL_law_641 : decode cL_law 641 = .ok (.ireturn, 1) := by decide +kernel
theorem dL_law_642 : decode cL_law 642 = .ok (.aload_n 1, 1) := by decide +kernel
theorem dL_law_643 : decode cL_law 643 = .ok (.aload_n 0, 1) := by decide +kernel
theorem dL_law_644 : decode cL_law 644 = .ok (.iload_n 3, 1) := by decide +kernel
theorem dL_law_645 : decode cL_law 645 = .ok (.iconst 1, 1) := by decide +kernel
theorem dL_law_646 : decode cL_law 646 = .ok (.iadd, 1) := by decide +kernel
theorem dL_law_647 : decode cL_law 647 = .ok (.iaload, 1) := by decide +kernel
theorem dL_law_648 : decode cL_law 648 = .ok (.aload_n 0, 1) := by decide +kernel
theorem dL_law_649 : decode cL_law 649 = .ok (.iload_n 3, 1) := by decide +kernel
theorem dL_law_650 : decode cL_law 650 = .ok (.iconst 2, 1) := by decide +kernel
theorem dL_law_651 : decode cL_law 651 = .ok (.iadd, 1) := by decide +kernel
theorem dL_law_652 : decode cL_law 652 = .ok (.iaload, 1) := by decide +kernel
theorem dL_law_653 : decode cL_law 653 = .ok (.invokevirtual 82, 3) := by decide +kernel
theorem dL_law_656 : decode cL_law 656 = .ok (.aload_n 2, 1) := by decide +kernel
theorem dL_law_657 : decode cL_law 657 = .ok (.aload_n 0, 1) := by decide +kernel
theorem dL_law_658 : decode cL_law 658 = .ok (.iload_n 3, 1) := by decide +kernel
theorem dL_law_659 : decode cL_law 659 = .ok (.iconst 1, 1) := by decide +kernel
theorem dL_law_660 : decode cL_law 660 = .ok (.iadd, 1) := by decide +kernel
theorem dL_law_661 : decode cL_law 661 = .ok (.iaload, 1) := by decide +kernel
theorem dL_law_662 : decode cL_law 662 = .ok (.aload_n 0, 1) := by decide +kernel
theorem dL_law_663 : decode cL_law 663 = .ok (.iload_n 3, 1) := by decide +kernel
theorem dL_law_664 : decode cL_law 664 = .ok (.iconst 2, 1) := by decide +kernel
theorem dL_law_665 : decode cL_law 665 = .ok (.iadd, 1) := by decide +kernel
theorem dL_law_666 : decode cL_law 666 = .ok (.iaload, 1) := by decide +kernel
theorem dL_law_667 : decode cL_law 667 = .ok (.invokevirtual 85, 3) := by decide +kernel
theorem dL_law_670 : decode cL_law 670 = .ok (.if_icmp .eq 312, 3) := by decide +kernel
theorem dL_law_673 : decode cL_law 673 = .ok (.iconst 0, 1) := by decide +kernel
theorem dL_law_674 : decode cL_law 674 = .ok (.ireturn, 1) := by decide +kernel
theorem dL_law_675 : decode cL_law 675 = .ok (.aload_n 1, 1) := by decide +kernel
theorem dL_law_676 : decode cL_law 676 = .ok (.invokevirtual 86, 3) := by decide +kernel
theorem dL_law_679 : decode cL_law 679 = .ok (.aload_n 2, 1) := by decide +kernel
theorem dL_law_680 : decode cL_law 680 = .ok (.invokevirtual 89, 3) := by decide +kernel
theorem dL_law_683 : decode cL_law 683 = .ok (.if_icmp .eq 299, 3) := by decide +kernel
theorem dL_law_686 : decode cL_law 686 = .ok (.iconst 0, 1) := by decide +kernel
theorem dL_law_687 : decode cL_law 687 = .ok (.ireturn, 1) := by decide +kernel
theorem dL_law_688 : decode cL_law 688 = .ok (.aload_n 1, 1) := by decide +kernel
theorem dL_law_689 : decode cL_law 689 = .ok (.aload_n 0, 1) := by decide +kernel
theorem dL_law_690 : decode cL_law 690 = .ok (.iload_n 3, 1) := by decide +kernel
theorem dL_law_691 : decode cL_law 691 = .ok (.iconst 1, 1) := by decide +kernel
theorem dL_law_692 : decode cL_law 692 = .ok (.iadd, 1) := by decide +kernel
theorem dL_law_693 : decode cL_law 693 = .ok (.iaload, 1) := by decide +kernel
theorem dL_law_694 : decode cL_law 694 = .ok (.aload_n 0, 1) := by decide +kernel
theorem dL_law_695 : decode cL_law 695 = .ok (.iload_n 3, 1) := by decide +kernel
theorem dL_law_696 : decode cL_law 696 = .ok (.iconst 2, 1) := by decide +kernel
theorem dL_law_697 : decode cL_law 697 = .ok (.iadd, 1) := by decide +kernel
theorem dL_law_698 : decode cL_law 698 = .ok (.iaload, 1) := by decide +kernel
theorem dL_law_699 : decode cL_law 699 = .ok (.invokevirtual 90, 3) := by decide +kernel
theorem dL_law_702 : decode cL_law 702 = .ok (.aload_n 2, 1) := by decide +kernel
theorem dL_law_703 : decode cL_law 703 = .ok (.aload_n 0, 1) := by decide +kernel
theorem dL_law_704 : decode cL_law 704 = .ok (.iload_n 3, 1) := by decide +kernel
theorem dL_law_705 : decode cL_law 705 = .ok (.iconst 1, 1) := by decide +kernel
theorem dL_law_706 : decode cL_law 706 = .ok (.iadd, 1) := by decide +kernel
theorem dL_law_707 : decode cL_law 707 = .ok (.iaload, 1) := by decide +kernel
theorem dL_law_708 : decode cL_law 708 = .ok (.aload_n 0, 1) := by decide +kernel
theorem dL_law_709 : decode cL_law 709 = .ok (.iload_n 3, 1) := by decide +kernel
theorem dL_law_710 : decode cL_law 710 = .ok (.iconst 2, 1) := by decide +kernel
theorem dL_law_711 : decode cL_law 711 = .ok (.iadd, 1) := by decide +kernel
theorem dL_law_712 : decode cL_law 712 = .ok (.iaload, 1) := by decide +kernel
theorem dL_law_713 : decode cL_law 713 = .ok (.invokevirtual 93, 3) := by decide +kernel
theorem dL_law_716 : decode cL_law 716 = .ok (.if_icmp .eq 266, 3) := by decide +kernel
theorem dL_law_719 : decode cL_law 719 = .ok (.iconst 0, 1) := by decide +kernel
theorem dL_law_720 : decode cL_law 720 = .ok (.ireturn, 1) := by decide +kernel
theorem dL_law_721 : decode cL_law 721 = .ok (.aload_n 1, 1) := by decide +kernel
theorem dL_law_722 : decode cL_law 722 = .ok (.aload_n 0, 1) := by decide +kernel
theorem dL_law_723 : decode cL_law 723 = .ok (.iload_n 3, 1) := by decide +kernel
theorem dL_law_724 : decode cL_law 724 = .ok (.iconst 1, 1) := by decide +kernel
theorem dL_law_725 : decode cL_law 725 = .ok (.iadd, 1) := by decide +kernel
theorem dL_law_726 : decode cL_law 726 = .ok (.iaload, 1) := by decide +kernel
theorem dL_law_727 : decode cL_law 727 = .ok (.aload_n 0, 1) := by decide +kernel
theorem dL_law_728 : decode cL_law 728 = .ok (.iload_n 3, 1) := by decide +kernel
theorem dL_law_729 : decode cL_law 729 = .ok (.iconst 2, 1) := by decide +kernel
theorem dL_law_730 : decode cL_law 730 = .ok (.iadd, 1) := by decide +kernel
theorem dL_law_731 : decode cL_law 731 = .ok (.iaload, 1) := by decide +kernel
theorem dL_law_732 : decode cL_law 732 = .ok (.invokevirtual 94, 3) := by decide +kernel
theorem dL_law_735 : decode cL_law 735 = .ok (.aload_n 2, 1) := by decide +kernel
theorem dL_law_736 : decode cL_law 736 = .ok (.aload_n 0, 1) := by decide +kernel
theorem dL_law_737 : decode cL_law 737 = .ok (.iload_n 3, 1) := by decide +kernel
theorem dL_law_738 : decode cL_law 738 = .ok (.iconst 1, 1) := by decide +kernel
theorem dL_law_739 : decode cL_law 739 = .ok (.iadd, 1) := by decide +kernel
theorem dL_law_740 : decode cL_law 740 = .ok (.iaload, 1) := by decide +kernel
theorem dL_law_741 : decode cL_law 741 = .ok (.aload_n 0, 1) := by decide +kernel
theorem dL_law_742 : decode cL_law 742 = .ok (.iload_n 3, 1) := by decide +kernel
theorem dL_law_743 : decode cL_law 743 = .ok (.iconst 2, 1) := by decide +kernel
theorem dL_law_744 : decode cL_law 744 = .ok (.iadd, 1) := by decide +kernel
theorem dL_law_745 : decode cL_law 745 = .ok (.iaload, 1) := by decide +kernel
theorem dL_law_746 : decode cL_law 746 = .ok (.invokevirtual 97, 3) := by decide +kernel
theorem dL_law_749 : decode cL_law 749 = .ok (.if_icmp .eq 233, 3) := by decide +kernel
theorem dL_law_752 : decode cL_law 752 = .ok (.iconst 0, 1) := by decide +kernel
theorem dL_law_753 : decode cL_law 753 = .ok (.ireturn, 1) := by decide +kernel
theorem dL_law_754 : decode cL_law 754 = .ok (.aload_n 1, 1) := by decide +kernel
theorem dL_law_755 : decode cL_law 755 = .ok (.aload_n 0, 1) := by decide +kernel
theorem dL_law_756 : decode cL_law 756 = .ok (.iload_n 3, 1) := by decide +kernel
theorem dL_law_757 : decode cL_law 757 = .ok (.iconst 1, 1) := by decide +kernel
theorem dL_law_758 : decode cL_law 758 = .ok (.iadd, 1) := by decide +kernel
theorem dL_law_759 : decode cL_law 759 = .ok (.iaload, 1) := by decide +kernel
theorem dL_law_760 : decode cL_law 760 = .ok (.aload_n 0, 1) := by decide +kernel
theorem dL_law_761 : decode cL_law 761 = .ok (.iload_n 3, 1) := by decide +kernel
theorem dL_law_762 : decode cL_law 762 = .ok (.iconst 2, 1) := by decide +kernel
theorem dL_law_763 : decode cL_law 763 = .ok (.iadd, 1) := by decide +kernel
theorem dL_law_764 : decode cL_law 764 = .ok (.iaload, 1) := by decide +kernel
theorem dL_law_765 : decode cL_law 765 = .ok (.invokevirtual 98, 3) := by decide +kernel
theorem dL_law_768 : decode cL_law 768 = .ok (.aload_n 2, 1) := by decide +kernel
theorem dL_law_769 : decode cL_law 769 = .ok (.aload_n 0, 1) := by decide +kernel
theorem dL_law_770 : decode cL_law 770 = .ok (.iload_n 3, 1) := by decide +kernel
theorem dL_law_771 : decode cL_law 771 = .ok (.iconst 1, 1) := by decide +kernel
theorem dL_law_772 : decode cL_law 772 = .ok (.iadd, 1) := by decide +kernel
theorem dL_law_773 : decode cL_law 773 = .ok (.iaload, 1) := by decide +kernel
theorem dL_law_774 : decode cL_law 774 = .ok (.aload_n 0, 1) := by decide +kernel
theorem dL_law_775 : decode cL_law 775 = .ok (.iload_n 3, 1) := by decide +kernel
theorem dL_law_776 : decode cL_law 776 = .ok (.iconst 2, 1) := by decide +kernel
theorem dL_law_777 : decode cL_law 777 = .ok (.iadd, 1) := by decide +kernel
theorem dL_law_778 : decode cL_law 778 = .ok (.iaload, 1) := by decide +kernel
theorem dL_law_779 : decode cL_law 779 = .ok (.invokevirtual 101, 3) := by decide +kernel
theorem dL_law_782 : decode cL_law 782 = .ok (.if_icmp .eq 200, 3) := by decide +kernel
theorem dL_law_785 : decode cL_law 785 = .ok (.iconst 0, 1) := by decide +kernel
theorem dL_law_786 : decode cL_law 786 = .ok (.ireturn, 1) := by decide +kernel
theorem dL_law_787 : decode cL_law 787 = .ok (.aload_n 1, 1) := by decide +kernel
theorem dL_law_788 : decode cL_law 788 = .ok (.aload_n 0, 1) := by decide +kernel
theorem dL_law_789 : decode cL_law 789 = .ok (.iload_n 3, 1) := by decide +kernel
theorem dL_law_790 : decode cL_law 790 = .ok (.iconst 1, 1) := by decide +kernel
theorem dL_law_791 : decode cL_law 791 = .ok (.iadd, 1) := by decide +kernel
theorem dL_law_792 : decode cL_law 792 = .ok (.iaload, 1) := by decide +kernel
theorem dL_law_793 : decode cL_law 793 = .ok (.invokevirtual 102, 3) := by decide +kernel
theorem dL_law_796 : decode cL_law 796 = .ok (.aload_n 2, 1) := by decide +kernel
theorem dL_law_797 : decode cL_law 797 = .ok (.aload_n 0, 1) := by decide +kernel
theorem dL_law_798 : decode cL_law 798 = .ok (.iload_n 3, 1) := by decide +kernel
theorem dL_law_799 : decode cL_law 799 = .ok (.iconst 1, 1) := by decide +kernel
theorem dL_law_800 : decode cL_law 800 = .ok (.iadd, 1) := by decide +kernel
theorem dL_law_801 : decode cL_law 801 = .ok (.iaload, 1) := by decide +kernel
theorem dL_law_802 : decode cL_law 802 = .ok (.invokevirtual 105, 3) := by decide +kernel
theorem dL_law_805 : decode cL_law 805 = .ok (.if_icmp .eq 177, 3) := by decide +kernel
theorem dL_law_808 : decode cL_law 808 = .ok (.iconst 0, 1) := by decide +kernel
theorem dL_law_809 : decode cL_law 809 = .ok (.ireturn, 1) := by decide +kernel
theorem dL_law_810 : decode cL_law 810 = .ok (.aload_n 1, 1) := by decide +kernel
theorem dL_law_811 : decode cL_law 811 = .ok (.aload_n 0, 1) := by decide +kernel
theorem dL_law_812 : decode cL_law 812 = .ok (.iload_n 3, 1) := by decide +kernel
theorem dL_law_813 : decode cL_law 813 = .ok (.iconst 1, 1) := by decide +kernel
theorem dL_law_814 : decode cL_law 814 = .ok (.iadd, 1) := by decide +kernel
theorem dL_law_815 : decode cL_law 815 = .ok (.iaload, 1) := by decide +kernel
theorem dL_law_816 : decode cL_law 816 = .ok (.aload_n 0, 1) := by decide +kernel
theorem dL_law_817 : decode cL_law 817 = .ok (.iload_n 3, 1) := by decide +kernel
theorem dL_law_818 : decode cL_law 818 = .ok (.iconst 2, 1) := by decide +kernel
theorem dL_law_819 : decode cL_law 819 = .ok (.iadd, 1) := by decide +kernel
theorem dL_law_820 : decode cL_law 820 = .ok (.iaload, 1) := by decide +kernel
theorem dL_law_821 : decode cL_law 821 = .ok (.aload_n 0, 1) := by decide +kernel
theorem dL_law_822 : decode cL_law 822 = .ok (.iload_n 3, 1) := by decide +kernel
theorem dL_law_823 : decode cL_law 823 = .ok (.iconst 3, 1) := by decide +kernel
theorem dL_law_824 : decode cL_law 824 = .ok (.iadd, 1) := by decide +kernel
theorem dL_law_825 : decode cL_law 825 = .ok (.iaload, 1) := by decide +kernel
theorem dL_law_826 : decode cL_law 826 = .ok (.invokevirtual 106, 3) := by decide +kernel
theorem dL_law_829 : decode cL_law 829 = .ok (.aload_n 2, 1) := by decide +kernel
theorem dL_law_830 : decode cL_law 830 = .ok (.aload_n 0, 1) := by decide +kernel
theorem dL_law_831 : decode cL_law 831 = .ok (.iload_n 3, 1) := by decide +kernel
theorem dL_law_832 : decode cL_law 832 = .ok (.iconst 1, 1) := by decide +kernel
theorem dL_law_833 : decode cL_law 833 = .ok (.iadd, 1) := by decide +kernel
theorem dL_law_834 : decode cL_law 834 = .ok (.iaload, 1) := by decide +kernel
theorem dL_law_835 : decode cL_law 835 = .ok (.aload_n 0, 1) := by decide +kernel
theorem dL_law_836 : decode cL_law 836 = .ok (.iload_n 3, 1) := by decide +kernel
theorem dL_law_837 : decode cL_law 837 = .ok (.iconst 2, 1) := by decide +kernel
theorem dL_law_838 : decode cL_law 838 = .ok (.iadd, 1) := by decide +kernel
theorem dL_law_839 : decode cL_law 839 = .ok (.iaload, 1) := by decide +kernel
theorem dL_law_840 : decode cL_law 840 = .ok (.aload_n 0, 1) := by decide +kernel
theorem dL_law_841 : decode cL_law 841 = .ok (.iload_n 3, 1) := by decide +kernel
theorem dL_law_842 : decode cL_law 842 = .ok (.iconst 3, 1) := by decide +kernel
theorem dL_law_843 : decode cL_law 843 = .ok (.iadd, 1) := by decide +kernel
theorem dL_law_844 : decode cL_law 844 = .ok (.iaload, 1) := by decide +kernel
theorem dL_law_845 : decode cL_law 845 = .ok (.invokevirtual 110, 3) := by decide +kernel
theorem dL_law_848 : decode cL_law 848 = .ok (.lcmp, 1) := by decide +kernel
theorem dL_law_849 : decode cL_law 849 = .ok (.ifCond .eq 133, 3) := by decide +kernel
theorem dL_law_852 : decode cL_law 852 = .ok (.iconst 0, 1) := by decide +kernel
theorem dL_law_853 : decode cL_law 853 = .ok (.ireturn, 1) := by decide +kernel
theorem dL_law_854 : decode cL_law 854 = .ok (.aload_n 1, 1) := by decide +kernel
theorem dL_law_855 : decode cL_law 855 = .ok (.aload_n 0, 1) := by decide +kernel
theorem dL_law_856 : decode cL_law 856 = .ok (.iload_n 3, 1) := by decide +kernel
theorem dL_law_857 : decode cL_law 857 = .ok (.iconst 1, 1) := by decide +kernel
theorem dL_law_858 : decode cL_law 858 = .ok (.iadd, 1) := by decide +kernel
theorem dL_law_859 : decode cL_law 859 = .ok (.iaload, 1) := by decide +kernel
theorem dL_law_860 : decode cL_law 860 = .ok (.aload_n 0, 1) := by decide +kernel
theorem dL_law_861 : decode cL_law 861 = .ok (.iload_n 3, 1) := by decide +kernel
theorem dL_law_862 : decode cL_law 862 = .ok (.iconst 2, 1) := by decide +kernel
theorem dL_law_863 : decode cL_law 863 = .ok (.iadd, 1) := by decide +kernel
theorem dL_law_864 : decode cL_law 864 = .ok (.iaload, 1) := by decide +kernel
theorem dL_law_865 : decode cL_law 865 = .ok (.invokevirtual 111, 3) := by decide +kernel
theorem dL_law_868 : decode cL_law 868 = .ok (.aload_n 2, 1) := by decide +kernel
theorem dL_law_869 : decode cL_law 869 = .ok (.aload_n 0, 1) := by decide +kernel
theorem dL_law_870 : decode cL_law 870 = .ok (.iload_n 3, 1) := by decide +kernel
theorem dL_law_871 : decode cL_law 871 = .ok (.iconst 1, 1) := by decide +kernel
theorem dL_law_872 : decode cL_law 872 = .ok (.iadd, 1) := by decide +kernel
theorem dL_law_873 : decode cL_law 873 = .ok (.iaload, 1) := by decide +kernel
theorem dL_law_874 : decode cL_law 874 = .ok (.aload_n 0, 1) := by decide +kernel
theorem dL_law_875 : decode cL_law 875 = .ok (.iload_n 3, 1) := by decide +kernel
theorem dL_law_876 : decode cL_law 876 = .ok (.iconst 2, 1) := by decide +kernel
theorem dL_law_877 : decode cL_law 877 = .ok (.iadd, 1) := by decide +kernel
theorem dL_law_878 : decode cL_law 878 = .ok (.iaload, 1) := by decide +kernel
theorem dL_law_879 : decode cL_law 879 = .ok (.invokevirtual 114, 3) := by decide +kernel
theorem dL_law_882 : decode cL_law 882 = .ok (.if_icmp .eq 100, 3) := by decide +kernel
theorem dL_law_885 : decode cL_law 885 = .ok (.iconst 0, 1) := by decide +kernel
theorem dL_law_886 : decode cL_law 886 = .ok (.ireturn, 1) := by decide +kernel
theorem dL_law_887 : decode cL_law 887 = .ok (.aload_n 1, 1) := by decide +kernel
theorem dL_law_888 : decode cL_law 888 = .ok (.aload_n 0, 1) := by decide +kernel
theorem dL_law_889 : decode cL_law 889 = .ok (.iload_n 3, 1) := by decide +kernel
theorem dL_law_890 : decode cL_law 890 = .ok (.iconst 1, 1) := by decide +kernel
theorem dL_law_891 : decode cL_law 891 = .ok (.iadd, 1) := by decide +kernel
theorem dL_law_892 : decode cL_law 892 = .ok (.iaload, 1) := by decide +kernel
theorem dL_law_893 : decode cL_law 893 = .ok (.invokevirtual 115, 3) := by decide +kernel
theorem dL_law_896 : decode cL_law 896 = .ok (.aload_n 2, 1) := by decide +kernel
theorem dL_law_897 : decode cL_law 897 = .ok (.aload_n 0, 1) := by decide +kernel
theorem dL_law_898 : decode cL_law 898 = .ok (.iload_n 3, 1) := by decide +kernel
theorem dL_law_899 : decode cL_law 899 = .ok (.iconst 1, 1) := by decide +kernel
theorem dL_law_900 : decode cL_law 900 = .ok (.iadd, 1) := by decide +kernel
theorem dL_law_901 : decode cL_law 901 = .ok (.iaload, 1) := by decide +kernel
theorem dL_law_902 : decode cL_law 902 = .ok (.invokevirtual 119, 3) := by decide +kernel
theorem dL_law_905 : decode cL_law 905 = .ok (.if_icmp .eq 77, 3) := by decide +kernel
theorem dL_law_908 : decode cL_law 908 = .ok (.iconst 0, 1) := by decide +kernel
theorem dL_law_909 : decode cL_law 909 = .ok (.ireturn, 1) := by decide +kernel
theorem dL_law_910 : decode cL_law 910 = .ok (.aload_n 1, 1) := by decide +kernel
theorem dL_law_911 : decode cL_law 911 = .ok (.invokevirtual 120, 3) := by decide +kernel
theorem dL_law_914 : decode cL_law 914 = .ok (.aload_n 2, 1) := by decide +kernel
theorem dL_law_915 : decode cL_law 915 = .ok (.invokevirtual 123, 3) := by decide +kernel
theorem dL_law_918 : decode cL_law 918 = .ok (.if_icmp .eq 64, 3) := by decide +kernel
theorem dL_law_921 : decode cL_law 921 = .ok (.iconst 0, 1) := by decide +kernel
theorem dL_law_922 : decode cL_law 922 = .ok (.ireturn, 1) := by decide +kernel
theorem dL_law_923 : decode cL_law 923 = .ok (.aload_n 1, 1) := by decide +kernel
theorem dL_law_924 : decode cL_law 924 = .ok (.invokevirtual 124, 3) := by decide +kernel
theorem dL_law_927 : decode cL_law 927 = .ok (.aload_n 2, 1) := by decide +kernel
theorem dL_law_928 : decode cL_law 928 = .ok (.invokevirtual 128, 3) := by decide +kernel
theorem dL_law_931 : decode cL_law 931 = .ok (.if_icmp .eq 51, 3) := by decide +kernel
theorem dL_law_934 : decode cL_law 934 = .ok (.iconst 0, 1) := by decide +kernel
theorem dL_law_935 : decode cL_law 935 = .ok (.ireturn, 1) := by decide +kernel
theorem dL_law_936 : decode cL_law 936 = .ok (.aload_n 1, 1) := by decide +kernel
theorem dL_law_937 : decode cL_law 937 = .ok (.aload_n 0, 1) := by decide +kernel
theorem dL_law_938 : decode cL_law 938 = .ok (.iload_n 3, 1) := by decide +kernel
theorem dL_law_939 : decode cL_law 939 = .ok (.iconst 1, 1) := by decide +kernel
theorem dL_law_940 : decode cL_law 940 = .ok (.iadd, 1) := by decide +kernel
theorem dL_law_941 : decode cL_law 941 = .ok (.iaload, 1) := by decide +kernel
theorem dL_law_942 : decode cL_law 942 = .ok (.invokevirtual 129, 3) := by decide +kernel
theorem dL_law_945 : decode cL_law 945 = .ok (.aload_n 2, 1) := by decide +kernel
theorem dL_law_946 : decode cL_law 946 = .ok (.aload_n 0, 1) := by decide +kernel
theorem dL_law_947 : decode cL_law 947 = .ok (.iload_n 3, 1) := by decide +kernel
theorem dL_law_948 : decode cL_law 948 = .ok (.iconst 1, 1) := by decide +kernel
theorem dL_law_949 : decode cL_law 949 = .ok (.iadd, 1) := by decide +kernel
theorem dL_law_950 : decode cL_law 950 = .ok (.iaload, 1) := by decide +kernel
theorem dL_law_951 : decode cL_law 951 = .ok (.invokevirtual 132, 3) := by decide +kernel
theorem dL_law_954 : decode cL_law 954 = .ok (.if_icmp .eq 28, 3) := by decide +kernel
theorem dL_law_957 : decode cL_law 957 = .ok (.iconst 0, 1) := by decide +kernel
theorem dL_law_958 : decode cL_law 958 = .ok (.ireturn, 1) := by decide +kernel
theorem dL_law_959 : decode cL_law 959 = .ok (.aload_n 1, 1) := by decide +kernel
theorem dL_law_960 : decode cL_law 960 = .ok (.aload_n 0, 1) := by decide +kernel
theorem dL_law_961 : decode cL_law 961 = .ok (.iload_n 3, 1) := by decide +kernel
theorem dL_law_962 : decode cL_law 962 = .ok (.iconst 1, 1) := by decide +kernel
theorem dL_law_963 : decode cL_law 963 = .ok (.iadd, 1) := by decide +kernel
theorem dL_law_964 : decode cL_law 964 = .ok (.iaload, 1) := by decide +kernel
theorem dL_law_965 : decode cL_law 965 = .ok (.invokevirtual 133, 3) := by decide +kernel
theorem dL_law_968 : decode cL_law 968 = .ok (.aload_n 2, 1) := by decide +kernel
theorem dL_law_969 : decode cL_law 969 = .ok (.aload_n 0, 1) := by decide +kernel
theorem dL_law_970 : decode cL_law 970 = .ok (.iload_n 3, 1) := by decide +kernel
theorem dL_law_971 : decode cL_law 971 = .ok (.iconst 1, 1) := by decide +kernel
theorem dL_law_972 : decode cL_law 972 = .ok (.iadd, 1) := by decide +kernel
theorem dL_law_973 : decode cL_law 973 = .ok (.iaload, 1) := by decide +kernel
theorem dL_law_974 : decode cL_law 974 = .ok (.invokevirtual 136, 3) := by decide +kernel
theorem dL_law_977 : decode cL_law 977 = .ok (.if_icmp .eq 5, 3) := by decide +kernel
theorem dL_law_980 : decode cL_law 980 = .ok (.iconst 0, 1) := by decide +kernel
theorem dL_law_981 : decode cL_law 981 = .ok (.ireturn, 1) := by decide +kernel
theorem dL_law_982 : decode cL_law 982 = .ok (.iinc 3 6, 3) := by decide +kernel
theorem dL_law_985 : decode cL_law 985 = .ok (.goto (-967), 3) := by decide +kernel
theorem dL_law_988 : decode cL_law 988 = .ok (.iconst 1, 1) := by decide +kernel
theorem dL_law_989 : decode cL_law 989 = .ok (.ireturn, 1) := by decide +kernel
end
section
def fx_nest : Cond → Bool
  | .fieldLinkNest .. => true
  | .methodLinkNest .. => true
  | .arrayOver .. => true
  | _ => false
def fx_NW : List Cond := lw_tbl.filter fx_nest
def fx_NS (U : State) : Prop := ∀ w ∈ fx_NW, va_Nw w U
theorem fx_NS.warm {s U : State} (hW : s.WarmedH U.vm) (h : fx_NS s) : fx_NS U := by
  intro w hw
  have hn := (List.mem_filter.mp hw).2
  have h1 := h w hw
  cases w <;> first | (simp [fx_nest] at hn; done) | exact va_Nw.warmF hW h1 | exact va_Nw.warmM hW h1 | exact (Cond.arrayOver_setVmC (args := #[]) (s := s) hW.alike _).trans h1
theorem fx_NS.same {u U : State} (hv : u.vm = U.vm) (h : fx_NS u) : fx_NS U := by
  intro w hw
  have hn := (List.mem_filter.mp hw).2
  have h1 := h w hw
  cases w <;> first | (simp [fx_nest] at hn; done) | exact va_Nw.same rfl hv h1 | exact (Cond.arrayOver_setVmC (args := #[]) (s := u) (vm' := U.vm) (by rw [← hv]; exact Vm.Alike.refl u.vm) _).trans h1
theorem fx_NS.use {w : Cond} {U : State} {A : Array Value} (h : fx_NS U) (hw : w ∈ fx_NW) : w.before A U = true := by
  have hn := (List.mem_filter.mp hw).2
  have h1 := h w hw
  cases w <;> first | (simp [fx_nest] at hn; done) | exact va_Nw.use rfl h1 | exact h1
theorem fx_NS.of {U : State} {A : Array Value} (h : ∀ w ∈ lw_tbl, w.before A U = true) : fx_NS U := by
  intro w hw
  obtain ⟨hm, hn⟩ := List.mem_filter.mp hw
  have h1 := h w hm
  cases w <;> first | (simp [fx_nest] at hn; done) | exact va_Nw.of rfl h1 | exact h1
theorem fx_k1 {w : Cond} (h : w ∈ tables_1_1) : w ∈ lw_tbl := (List.mem_append_right _ (List.mem_append_left _ h))
theorem fx_m1 {w : Cond} (j : Nat) (h : tables_1_1[j]? = some w) (g : goodWord w = true) : w ∈ fx_TB := List.mem_filter.mpr ⟨fx_k1 (List.mem_of_getElem? h), g⟩
theorem fx_n1 {w : Cond} (j : Nat) (h : tables_1_1[j]? = some w) (g : fx_nest w = true) : w ∈ fx_NW := List.mem_filter.mpr ⟨fx_k1 (List.mem_of_getElem? h), g⟩
theorem fx_k2 {w : Cond} (h : w ∈ tables_1_2) : w ∈ lw_tbl := (List.mem_append_right _ (List.mem_append_right _ (List.mem_append_left _ h)))
theorem fx_m2 {w : Cond} (j : Nat) (h : tables_1_2[j]? = some w) (g : goodWord w = true) : w ∈ fx_TB := List.mem_filter.mpr ⟨fx_k2 (List.mem_of_getElem? h), g⟩
theorem fx_n2 {w : Cond} (j : Nat) (h : tables_1_2[j]? = some w) (g : fx_nest w = true) : w ∈ fx_NW := List.mem_filter.mpr ⟨fx_k2 (List.mem_of_getElem? h), g⟩
theorem fx_k3 {w : Cond} (h : w ∈ tables_1_3) : w ∈ lw_tbl := (List.mem_append_right _ (List.mem_append_right _ (List.mem_append_right _ (List.mem_append_left _ h))))
theorem fx_m3 {w : Cond} (j : Nat) (h : tables_1_3[j]? = some w) (g : goodWord w = true) : w ∈ fx_TB := List.mem_filter.mpr ⟨fx_k3 (List.mem_of_getElem? h), g⟩
theorem fx_n3 {w : Cond} (j : Nat) (h : tables_1_3[j]? = some w) (g : fx_nest w = true) : w ∈ fx_NW := List.mem_filter.mpr ⟨fx_k3 (List.mem_of_getElem? h), g⟩
theorem fx_k4 {w : Cond} (h : w ∈ tables_1_4) : w ∈ lw_tbl := (List.mem_append_right _ (List.mem_append_right _ (List.mem_append_right _ (List.mem_append_right _ (List.mem_append_left _ h)))))
theorem fx_m4 {w : Cond} (j : Nat) (h : tables_1_4[j]? = some w) (g : goodWord w = true) : w ∈ fx_TB := List.mem_filter.mpr ⟨fx_k4 (List.mem_of_getElem? h), g⟩
theorem fx_n4 {w : Cond} (j : Nat) (h : tables_1_4[j]? = some w) (g : fx_nest w = true) : w ∈ fx_NW := List.mem_filter.mpr ⟨fx_k4 (List.mem_of_getElem? h), g⟩
theorem fx_k5 {w : Cond} (h : w ∈ tables_1_5) : w ∈ lw_tbl := (List.mem_append_right _ (List.mem_append_right _ (List.mem_append_right _ (List.mem_append_right _ (List.mem_append_right _ (List.mem_append_left _ h))))))
theorem fx_m5 {w : Cond} (j : Nat) (h : tables_1_5[j]? = some w) (g : goodWord w = true) : w ∈ fx_TB := List.mem_filter.mpr ⟨fx_k5 (List.mem_of_getElem? h), g⟩
theorem fx_n5 {w : Cond} (j : Nat) (h : tables_1_5[j]? = some w) (g : fx_nest w = true) : w ∈ fx_NW := List.mem_filter.mpr ⟨fx_k5 (List.mem_of_getElem? h), g⟩
theorem fx_k6 {w : Cond} (h : w ∈ tables_1_6) : w ∈ lw_tbl := (List.mem_append_right _ (List.mem_append_right _ (List.mem_append_right _ (List.mem_append_right _ (List.mem_append_right _ (List.mem_append_right _ (List.mem_append_left _ h)))))))
theorem fx_m6 {w : Cond} (j : Nat) (h : tables_1_6[j]? = some w) (g : goodWord w = true) : w ∈ fx_TB := List.mem_filter.mpr ⟨fx_k6 (List.mem_of_getElem? h), g⟩
theorem fx_n6 {w : Cond} (j : Nat) (h : tables_1_6[j]? = some w) (g : fx_nest w = true) : w ∈ fx_NW := List.mem_filter.mpr ⟨fx_k6 (List.mem_of_getElem? h), g⟩
theorem fx_k7 {w : Cond} (h : w ∈ tables_1_7) : w ∈ lw_tbl := (List.mem_append_right _ (List.mem_append_right _ (List.mem_append_right _ (List.mem_append_right _ (List.mem_append_right _ (List.mem_append_right _ (List.mem_append_right _ h)))))))
theorem fx_m7 {w : Cond} (j : Nat) (h : tables_1_7[j]? = some w) (g : goodWord w = true) : w ∈ fx_TB := List.mem_filter.mpr ⟨fx_k7 (List.mem_of_getElem? h), g⟩
theorem fx_n7 {w : Cond} (j : Nat) (h : tables_1_7[j]? = some w) (g : fx_nest w = true) : w ∈ fx_NW := List.mem_filter.mpr ⟨fx_k7 (List.mem_of_getElem? h), g⟩
end
section
theorem tp_15 : (Cond.selects "FearLocks$Nightfall" ({ cls := "FearLocks$Nightfall", name := "goOut", desc := "(LFearLocks$City;LFearLocks$Law;I)V" } : Jvm.MethodName) ({ cls := "FearLocks$Nightfall", name := "goOut", desc := "(LFearLocks$City;LFearLocks$Law;I)V" } : Jvm.MethodName)) ∈ fx_TB := fx_mem 15 (by decide +kernel) rfl
theorem tp_16 : (Cond.selects "FearLocks$Law" ({ cls := "FearLocks$Law", name := "reckon", desc := "(I)I" } : Jvm.MethodName) ({ cls := "FearLocks$Law", name := "reckon", desc := "(I)I" } : Jvm.MethodName)) ∈ fx_TB := fx_mem 16 (by decide +kernel) rfl
theorem tp_17 : (Cond.selects "FearLocks$Law" ({ cls := "FearLocks$Law", name := "push", desc := "(I)V" } : Jvm.MethodName) ({ cls := "FearLocks$Law", name := "push", desc := "(I)V" } : Jvm.MethodName)) ∈ fx_TB := fx_mem 17 (by decide +kernel) rfl
theorem tp_18 : (Cond.selects "FearLocks$Law" ({ cls := "FearLocks$Law", name := "meaningOf", desc := "(I)I" } : Jvm.MethodName) ({ cls := "FearLocks$Law", name := "meaningOf", desc := "(I)I" } : Jvm.MethodName)) ∈ fx_TB := fx_mem 18 (by decide +kernel) rfl
theorem tp_19 : (Cond.selects "FearLocks$Law" ({ cls := "FearLocks$Law", name := "pop", desc := "()I" } : Jvm.MethodName) ({ cls := "FearLocks$Law", name := "pop", desc := "()I" } : Jvm.MethodName)) ∈ fx_TB := fx_mem 19 (by decide +kernel) rfl
theorem tp_20 : (Cond.selects "FearLocks$Nightfall" ({ cls := "FearLocks$Nightfall", name := "tryDoor", desc := "(LFearLocks$City;LFearLocks$Law;II)V" } : Jvm.MethodName) ({ cls := "FearLocks$Nightfall", name := "tryDoor", desc := "(LFearLocks$City;LFearLocks$Law;II)V" } : Jvm.MethodName)) ∈ fx_TB := fx_mem 20 (by decide +kernel) rfl
theorem tp_21 : (Cond.selects "FearLocks$Nightfall" ({ cls := "FearLocks$Nightfall", name := "spreadDread", desc := "(LFearLocks$City;LFearLocks$Law;)V" } : Jvm.MethodName) ({ cls := "FearLocks$Nightfall", name := "spreadDread", desc := "(LFearLocks$City;LFearLocks$Law;)V" } : Jvm.MethodName)) ∈ fx_TB := fx_mem 21 (by decide +kernel) rfl
theorem tp_22 : (Cond.selects "FearLocks$Nightfall" ({ cls := "FearLocks$Nightfall", name := "catchDread", desc := "(LFearLocks$City;LFearLocks$Law;II)V" } : Jvm.MethodName) ({ cls := "FearLocks$Nightfall", name := "catchDread", desc := "(LFearLocks$City;LFearLocks$Law;II)V" } : Jvm.MethodName)) ∈ fx_TB := fx_mem 22 (by decide +kernel) rfl
theorem tp_23 : (Cond.selects "FearLocks" ({ cls := "FearLocks", name := "canBeTried", desc := "(I)Z" } : Jvm.MethodName) ({ cls := "FearLocks", name := "canBeTried", desc := "(I)Z" } : Jvm.MethodName)) ∈ fx_TB := fx_mem 23 (by decide +kernel) rfl
theorem tp_24 : (Cond.selects "FearLocks$Keys" ({ cls := "FearLocks$Keys", name := "openedBy", desc := "(I)I" } : Jvm.MethodName) ({ cls := "FearLocks$Keys", name := "openedBy", desc := "(I)I" } : Jvm.MethodName)) ∈ fx_TB := fx_mem 24 (by decide +kernel) rfl
theorem tp_25 : (Cond.selects "FearLocks$Company" ({ cls := "FearLocks$Company", name := "linkFellows", desc := "(LFearLocks$City;I)V" } : Jvm.MethodName) ({ cls := "FearLocks$Company", name := "linkFellows", desc := "(LFearLocks$City;I)V" } : Jvm.MethodName)) ∈ fx_TB := fx_mem 25 (by decide +kernel) rfl
theorem tp_26 : (Cond.selects "FearLocks$Company" ({ cls := "FearLocks$Company", name := "mostWith", desc := "(II)I" } : Jvm.MethodName) ({ cls := "FearLocks$Company", name := "mostWith", desc := "(II)I" } : Jvm.MethodName)) ∈ fx_TB := fx_mem 26 (by decide +kernel) rfl
theorem tp_27 : (Cond.selects "FearLocks$Pastimes" ({ cls := "FearLocks$Pastimes", name := "wordsWithOneMore", desc := "(II)J" } : Jvm.MethodName) ({ cls := "FearLocks$Pastimes", name := "wordsWithOneMore", desc := "(II)J" } : Jvm.MethodName)) ∈ fx_TB := fx_mem 27 (by decide +kernel) rfl
theorem tp_28 : (Cond.selects "FearLocksModel" ({ cls := "FearLocksModel", name := "types", desc := "(I)V" } : Jvm.MethodName) ({ cls := "FearLocksModel", name := "types", desc := "(I)V" } : Jvm.MethodName)) ∈ fx_TB := fx_mem 28 (by decide +kernel) rfl
theorem tp_29 : (Cond.selects "FearLocksModel" ({ cls := "FearLocksModel", name := "beginsText", desc := "(I)V" } : Jvm.MethodName) ({ cls := "FearLocksModel", name := "beginsText", desc := "(I)V" } : Jvm.MethodName)) ∈ fx_TB := fx_mem 29 (by decide +kernel) rfl
theorem tp_30 : (Cond.selects "FearLocksModel" ({ cls := "FearLocksModel", name := "readsRule", desc := "()Z" } : Jvm.MethodName) ({ cls := "FearLocksModel", name := "readsRule", desc := "()Z" } : Jvm.MethodName)) ∈ fx_TB := fx_mem 30 (by decide +kernel) rfl
theorem tp_31 : (Cond.selects "FearLocksModel" ({ cls := "FearLocksModel", name := "here", desc := "()I" } : Jvm.MethodName) ({ cls := "FearLocksModel", name := "here", desc := "()I" } : Jvm.MethodName)) ∈ fx_TB := fx_mem 31 (by decide +kernel) rfl
theorem tp_32 : (Cond.selects "FearLocksModel" ({ cls := "FearLocksModel", name := "wrongAt", desc := "(II)Z" } : Jvm.MethodName) ({ cls := "FearLocksModel", name := "wrongAt", desc := "(II)Z" } : Jvm.MethodName)) ∈ fx_TB := fx_mem 32 (by decide +kernel) rfl
theorem tp_33 : (Cond.selects "FearLocksModel" ({ cls := "FearLocksModel", name := "readsSum", desc := "()Z" } : Jvm.MethodName) ({ cls := "FearLocksModel", name := "readsSum", desc := "()Z" } : Jvm.MethodName)) ∈ fx_TB := fx_mem 33 (by decide +kernel) rfl
theorem tp_34 : (Cond.selects "FearLocksModel" ({ cls := "FearLocksModel", name := "readsFactor", desc := "()Z" } : Jvm.MethodName) ({ cls := "FearLocksModel", name := "readsFactor", desc := "()Z" } : Jvm.MethodName)) ∈ fx_TB := fx_mem 34 (by decide +kernel) rfl
theorem tp_35 : (Cond.selects "FearLocksModel" ({ cls := "FearLocksModel", name := "opens", desc := "(I)Z" } : Jvm.MethodName) ({ cls := "FearLocksModel", name := "opens", desc := "(I)Z" } : Jvm.MethodName)) ∈ fx_TB := fx_mem 35 (by decide +kernel) rfl
theorem tp_36 : (Cond.selects "FearLocksModel" ({ cls := "FearLocksModel", name := "isDigit", desc := "()Z" } : Jvm.MethodName) ({ cls := "FearLocksModel", name := "isDigit", desc := "()Z" } : Jvm.MethodName)) ∈ fx_TB := fx_mem 36 (by decide +kernel) rfl
theorem tp_37 : (Cond.selects "FearLocksModel" ({ cls := "FearLocksModel", name := "readsNumber", desc := "()Z" } : Jvm.MethodName) ({ cls := "FearLocksModel", name := "readsNumber", desc := "()Z" } : Jvm.MethodName)) ∈ fx_TB := fx_mem 37 (by decide +kernel) rfl
theorem tp_38 : (Cond.selects "FearLocksModel" ({ cls := "FearLocksModel", name := "notes", desc := "(II)V" } : Jvm.MethodName) ({ cls := "FearLocksModel", name := "notes", desc := "(II)V" } : Jvm.MethodName)) ∈ fx_TB := fx_mem 38 (by decide +kernel) rfl
theorem tp_39 : (Cond.selects "FearLocksModel" ({ cls := "FearLocksModel", name := "closesSums", desc := "(Z)V" } : Jvm.MethodName) ({ cls := "FearLocksModel", name := "closesSums", desc := "(Z)V" } : Jvm.MethodName)) ∈ fx_TB := fx_mem 39 (by decide +kernel) rfl
theorem tp_40 : (Cond.selects "FearLocksModel" ({ cls := "FearLocksModel", name := "waitTop", desc := "()I" } : Jvm.MethodName) ({ cls := "FearLocksModel", name := "waitTop", desc := "()I" } : Jvm.MethodName)) ∈ fx_TB := fx_mem 40 (by decide +kernel) rfl
theorem tp_41 : (Cond.selects "FearLocksModel" ({ cls := "FearLocksModel", name := "hasOpenSum", desc := "(I)Z" } : Jvm.MethodName) ({ cls := "FearLocksModel", name := "hasOpenSum", desc := "(I)Z" } : Jvm.MethodName)) ∈ fx_TB := fx_mem 41 (by decide +kernel) rfl
theorem tp_42 : (Cond.selects "FearLocksModel" ({ cls := "FearLocksModel", name := "readsCondition", desc := "()Z" } : Jvm.MethodName) ({ cls := "FearLocksModel", name := "readsCondition", desc := "()Z" } : Jvm.MethodName)) ∈ fx_TB := fx_mem 42 (by decide +kernel) rfl
theorem tp_43 : (Cond.selects "FearLocksModel" ({ cls := "FearLocksModel", name := "readsCompared", desc := "()Z" } : Jvm.MethodName) ({ cls := "FearLocksModel", name := "readsCompared", desc := "()Z" } : Jvm.MethodName)) ∈ fx_TB := fx_mem 43 (by decide +kernel) rfl
theorem tp_44 : (Cond.selects "FearLocksModel" ({ cls := "FearLocksModel", name := "endsPiece", desc := "()V" } : Jvm.MethodName) ({ cls := "FearLocksModel", name := "endsPiece", desc := "()V" } : Jvm.MethodName)) ∈ fx_TB := fx_mem 44 (by decide +kernel) rfl
theorem tp_45 : (Cond.selects "FearLocksModel" ({ cls := "FearLocksModel", name := "lands", desc := "(Z)V" } : Jvm.MethodName) ({ cls := "FearLocksModel", name := "lands", desc := "(Z)V" } : Jvm.MethodName)) ∈ fx_TB := fx_mem 45 (by decide +kernel) rfl
theorem tp_46 : (Cond.selects "FearLocksModel" ({ cls := "FearLocksModel", name := "jumps", desc := "(I)V" } : Jvm.MethodName) ({ cls := "FearLocksModel", name := "jumps", desc := "(I)V" } : Jvm.MethodName)) ∈ fx_TB := fx_mem 46 (by decide +kernel) rfl
theorem tp_47 : (Cond.selects "FearLocksModel" ({ cls := "FearLocksModel", name := "takes", desc := "(I)Z" } : Jvm.MethodName) ({ cls := "FearLocksModel", name := "takes", desc := "(I)Z" } : Jvm.MethodName)) ∈ fx_TB := fx_mem 47 (by decide +kernel) rfl
theorem tp_48 : (Cond.selects "FearLocksModel" ({ cls := "FearLocksModel", name := "readsDread", desc := "(I)Z" } : Jvm.MethodName) ({ cls := "FearLocksModel", name := "readsDread", desc := "(I)Z" } : Jvm.MethodName)) ∈ fx_TB := fx_mem 48 (by decide +kernel) rfl
theorem tp_49 : (Cond.selects "FearLocksModel" ({ cls := "FearLocksModel", name := "isLetter", desc := "()Z" } : Jvm.MethodName) ({ cls := "FearLocksModel", name := "isLetter", desc := "()Z" } : Jvm.MethodName)) ∈ fx_TB := fx_mem 49 (by decide +kernel) rfl
theorem tp_50 : (Cond.selects "FearLocksModel" ({ cls := "FearLocksModel", name := "readsMeant", desc := "()Z" } : Jvm.MethodName) ({ cls := "FearLocksModel", name := "readsMeant", desc := "()Z" } : Jvm.MethodName)) ∈ fx_TB := fx_mem 50 (by decide +kernel) rfl
theorem tp_51 : (Cond.selects "FearLocksModel" ({ cls := "FearLocksModel", name := "readsAmount", desc := "()Z" } : Jvm.MethodName) ({ cls := "FearLocksModel", name := "readsAmount", desc := "()Z" } : Jvm.MethodName)) ∈ fx_TB := fx_mem 51 (by decide +kernel) rfl
theorem tp_52 : (Cond.selects "FearLocksModel" ({ cls := "FearLocksModel", name := "laysAside", desc := "()V" } : Jvm.MethodName) ({ cls := "FearLocksModel", name := "laysAside", desc := "()V" } : Jvm.MethodName)) ∈ fx_TB := fx_mem 52 (by decide +kernel) rfl
theorem tp_53 : (Cond.selects "FearLocksModel" ({ cls := "FearLocksModel", name := "readsOrder", desc := "()Z" } : Jvm.MethodName) ({ cls := "FearLocksModel", name := "readsOrder", desc := "()Z" } : Jvm.MethodName)) ∈ fx_TB := fx_mem 53 (by decide +kernel) rfl
theorem tp_54 : (Cond.selects "FearLocksModel" ({ cls := "FearLocksModel", name := "readsTwo", desc := "()Z" } : Jvm.MethodName) ({ cls := "FearLocksModel", name := "readsTwo", desc := "()Z" } : Jvm.MethodName)) ∈ fx_TB := fx_mem 54 (by decide +kernel) rfl
theorem tp_55 : (Cond.selects "FearLocksModel" ({ cls := "FearLocksModel", name := "readsOne", desc := "()Z" } : Jvm.MethodName) ({ cls := "FearLocksModel", name := "readsOne", desc := "()Z" } : Jvm.MethodName)) ∈ fx_TB := fx_mem 55 (by decide +kernel) rfl
theorem tp_56 : (Cond.selects "FearLocksModel" ({ cls := "FearLocksModel", name := "isTold", desc := "(I)Z" } : Jvm.MethodName) ({ cls := "FearLocksModel", name := "isTold", desc := "(I)Z" } : Jvm.MethodName)) ∈ fx_TB := fx_mem 56 (by decide +kernel) rfl
theorem tp_57 : (Cond.selects "FearLocksModel" ({ cls := "FearLocksModel", name := "readsDoor", desc := "()Z" } : Jvm.MethodName) ({ cls := "FearLocksModel", name := "readsDoor", desc := "()Z" } : Jvm.MethodName)) ∈ fx_TB := fx_mem 57 (by decide +kernel) rfl
theorem tp_58 : (Cond.selects "FearLocksModel" ({ cls := "FearLocksModel", name := "isDoor", desc := "(I)Z" } : Jvm.MethodName) ({ cls := "FearLocksModel", name := "isDoor", desc := "(I)Z" } : Jvm.MethodName)) ∈ fx_TB := fx_mem 58 (by decide +kernel) rfl
theorem tp_59 : (Cond.selects "FearLocksModel" ({ cls := "FearLocksModel", name := "putsBack", desc := "()V" } : Jvm.MethodName) ({ cls := "FearLocksModel", name := "putsBack", desc := "()V" } : Jvm.MethodName)) ∈ fx_TB := fx_mem 59 (by decide +kernel) rfl
theorem tp_60 : (Cond.selects "FearLocksModel" ({ cls := "FearLocksModel", name := "nightsGo", desc := "(I)V" } : Jvm.MethodName) ({ cls := "FearLocksModel", name := "nightsGo", desc := "(I)V" } : Jvm.MethodName)) ∈ fx_TB := fx_mem 60 (by decide +kernel) rfl
theorem tp_61 : (Cond.selects "FearLocksModel" ({ cls := "FearLocksModel", name := "nightGoes", desc := "()V" } : Jvm.MethodName) ({ cls := "FearLocksModel", name := "nightGoes", desc := "()V" } : Jvm.MethodName)) ∈ fx_TB := fx_mem 61 (by decide +kernel) rfl
theorem tp_62 : (Cond.selects "FearLocksModel" ({ cls := "FearLocksModel", name := "goesOut", desc := "(I)V" } : Jvm.MethodName) ({ cls := "FearLocksModel", name := "goesOut", desc := "(I)V" } : Jvm.MethodName)) ∈ fx_TB := fx_mem 62 (by decide +kernel) rfl
theorem tp_63 : (Cond.selects "FearLocksModel" ({ cls := "FearLocksModel", name := "feels", desc := "(II)V" } : Jvm.MethodName) ({ cls := "FearLocksModel", name := "feels", desc := "(II)V" } : Jvm.MethodName)) ∈ fx_TB := fx_mem 63 (by decide +kernel) rfl
theorem tp_64 : (Cond.selects "FearLocksModel" ({ cls := "FearLocksModel", name := "greatest", desc := "(I)I" } : Jvm.MethodName) ({ cls := "FearLocksModel", name := "greatest", desc := "(I)I" } : Jvm.MethodName)) ∈ fx_TB := fx_mem 64 (by decide +kernel) rfl
theorem tp_65 : (Cond.selects "FearLocksModel" ({ cls := "FearLocksModel", name := "dread", desc := "(II)I" } : Jvm.MethodName) ({ cls := "FearLocksModel", name := "dread", desc := "(II)I" } : Jvm.MethodName)) ∈ fx_TB := fx_mem 65 (by decide +kernel) rfl
theorem tp_66 : (Cond.selects "FearLocksModel" ({ cls := "FearLocksModel", name := "holdsAny", desc := "(I)Z" } : Jvm.MethodName) ({ cls := "FearLocksModel", name := "holdsAny", desc := "(I)Z" } : Jvm.MethodName)) ∈ fx_TB := fx_mem 66 (by decide +kernel) rfl
theorem tp_67 : (Cond.selects "FearLocksModel" ({ cls := "FearLocksModel", name := "reckonsTo", desc := "(II)I" } : Jvm.MethodName) ({ cls := "FearLocksModel", name := "reckonsTo", desc := "(II)I" } : Jvm.MethodName)) ∈ fx_TB := fx_mem 67 (by decide +kernel) rfl
theorem tp_68 : (Cond.selects "FearLocksModel" ({ cls := "FearLocksModel", name := "likedMost", desc := "(II)I" } : Jvm.MethodName) ({ cls := "FearLocksModel", name := "likedMost", desc := "(II)I" } : Jvm.MethodName)) ∈ fx_TB := fx_mem 68 (by decide +kernel) rfl
theorem tp_69 : (Cond.selects "FearLocksModel" ({ cls := "FearLocksModel", name := "feelsDoor", desc := "(III)V" } : Jvm.MethodName) ({ cls := "FearLocksModel", name := "feelsDoor", desc := "(III)V" } : Jvm.MethodName)) ∈ fx_TB := fx_mem 69 (by decide +kernel) rfl
theorem tp_70 : (Cond.selects "FearLocksModel" ({ cls := "FearLocksModel", name := "byLaw", desc := "(II)I" } : Jvm.MethodName) ({ cls := "FearLocksModel", name := "byLaw", desc := "(II)I" } : Jvm.MethodName)) ∈ fx_TB := fx_mem 70 (by decide +kernel) rfl
theorem tp_71 : (Cond.selects "FearLocksModel" ({ cls := "FearLocksModel", name := "triesDoor", desc := "(III)V" } : Jvm.MethodName) ({ cls := "FearLocksModel", name := "triesDoor", desc := "(III)V" } : Jvm.MethodName)) ∈ fx_TB := fx_mem 71 (by decide +kernel) rfl
theorem tp_72 : (Cond.selects "FearLocksModel" ({ cls := "FearLocksModel", name := "unlocks", desc := "(II)Z" } : Jvm.MethodName) ({ cls := "FearLocksModel", name := "unlocks", desc := "(II)Z" } : Jvm.MethodName)) ∈ fx_TB := fx_mem 72 (by decide +kernel) rfl
theorem tp_73 : (Cond.selects "FearLocksModel" ({ cls := "FearLocksModel", name := "fearOf", desc := "(I)I" } : Jvm.MethodName) ({ cls := "FearLocksModel", name := "fearOf", desc := "(I)I" } : Jvm.MethodName)) ∈ fx_TB := fx_mem 73 (by decide +kernel) rfl
theorem tp_74 : (Cond.selects "FearLocksModel" ({ cls := "FearLocksModel", name := "catches", desc := "()V" } : Jvm.MethodName) ({ cls := "FearLocksModel", name := "catches", desc := "()V" } : Jvm.MethodName)) ∈ fx_TB := fx_mem 74 (by decide +kernel) rfl
theorem tp_75 : (Cond.selects "FearLocksModel" ({ cls := "FearLocksModel", name := "caughtBy", desc := "(II)I" } : Jvm.MethodName) ({ cls := "FearLocksModel", name := "caughtBy", desc := "(II)I" } : Jvm.MethodName)) ∈ fx_TB := fx_mem 75 (by decide +kernel) rfl
theorem tp_76 : (Cond.selects "FearLocksModel" ({ cls := "FearLocksModel", name := "doorsOf", desc := "(I)I" } : Jvm.MethodName) ({ cls := "FearLocksModel", name := "doorsOf", desc := "(I)I" } : Jvm.MethodName)) ∈ fx_TB := fx_mem 76 (by decide +kernel) rfl
theorem tp_77 : (Cond.selects "FearLocksModel" ({ cls := "FearLocksModel", name := "dreadSum", desc := "(I)I" } : Jvm.MethodName) ({ cls := "FearLocksModel", name := "dreadSum", desc := "(I)I" } : Jvm.MethodName)) ∈ fx_TB := fx_mem 77 (by decide +kernel) rfl
theorem tp_78 : (Cond.selects "FearLocksModel" ({ cls := "FearLocksModel", name := "whoUnlocks", desc := "(I)I" } : Jvm.MethodName) ({ cls := "FearLocksModel", name := "whoUnlocks", desc := "(I)I" } : Jvm.MethodName)) ∈ fx_TB := fx_mem 78 (by decide +kernel) rfl
theorem tp_79 : (Cond.selects "FearLocksModel" ({ cls := "FearLocksModel", name := "laysWho", desc := "()V" } : Jvm.MethodName) ({ cls := "FearLocksModel", name := "laysWho", desc := "()V" } : Jvm.MethodName)) ∈ fx_TB := fx_mem 79 (by decide +kernel) rfl
theorem tp_80 : (Cond.selects "FearLocksModel" ({ cls := "FearLocksModel", name := "isCrew", desc := "(I)Z" } : Jvm.MethodName) ({ cls := "FearLocksModel", name := "isCrew", desc := "(I)Z" } : Jvm.MethodName)) ∈ fx_TB := fx_mem 80 (by decide +kernel) rfl
theorem tp_81 : (Cond.selects "FearLocksModel" ({ cls := "FearLocksModel", name := "areCouple", desc := "(III)Z" } : Jvm.MethodName) ({ cls := "FearLocksModel", name := "areCouple", desc := "(III)Z" } : Jvm.MethodName)) ∈ fx_TB := fx_mem 81 (by decide +kernel) rfl
theorem tp_82 : (Cond.selects "FearLocksModel" ({ cls := "FearLocksModel", name := "firstWith", desc := "(I)I" } : Jvm.MethodName) ({ cls := "FearLocksModel", name := "firstWith", desc := "(I)I" } : Jvm.MethodName)) ∈ fx_TB := fx_mem 82 (by decide +kernel) rfl
theorem tp_83 : (Cond.selects "FearLocksModel" ({ cls := "FearLocksModel", name := "unlikeBy", desc := "(II)I" } : Jvm.MethodName) ({ cls := "FearLocksModel", name := "unlikeBy", desc := "(II)I" } : Jvm.MethodName)) ∈ fx_TB := fx_mem 83 (by decide +kernel) rfl
theorem tp_84 : (Cond.selects "FearLocksModel" ({ cls := "FearLocksModel", name := "circleOf", desc := "(II)I" } : Jvm.MethodName) ({ cls := "FearLocksModel", name := "circleOf", desc := "(II)I" } : Jvm.MethodName)) ∈ fx_TB := fx_mem 84 (by decide +kernel) rfl
theorem tp_85 : (Cond.selects "FearLocksModel" ({ cls := "FearLocksModel", name := "isKeystone", desc := "(I)Z" } : Jvm.MethodName) ({ cls := "FearLocksModel", name := "isKeystone", desc := "(I)Z" } : Jvm.MethodName)) ∈ fx_TB := fx_mem 85 (by decide +kernel) rfl
theorem tp_86 : (Cond.selects "FearLocksModel" ({ cls := "FearLocksModel", name := "groupOf", desc := "(II)I" } : Jvm.MethodName) ({ cls := "FearLocksModel", name := "groupOf", desc := "(II)I" } : Jvm.MethodName)) ∈ fx_TB := fx_mem 86 (by decide +kernel) rfl
theorem tp_87 : (Cond.selects "FearLocksModel" ({ cls := "FearLocksModel", name := "octet", desc := "(I)I" } : Jvm.MethodName) ({ cls := "FearLocksModel", name := "octet", desc := "(I)I" } : Jvm.MethodName)) ∈ fx_TB := fx_mem 87 (by decide +kernel) rfl
theorem tp_88 : (Cond.selects "FearLocksModel" ({ cls := "FearLocksModel", name := "bounds", desc := "(II)Z" } : Jvm.MethodName) ({ cls := "FearLocksModel", name := "bounds", desc := "(II)Z" } : Jvm.MethodName)) ∈ fx_TB := fx_mem 88 (by decide +kernel) rfl
theorem tp_89 : (Cond.selects "FearLocksModel" ({ cls := "FearLocksModel", name := "leaves", desc := "(II)I" } : Jvm.MethodName) ({ cls := "FearLocksModel", name := "leaves", desc := "(II)I" } : Jvm.MethodName)) ∈ fx_TB := fx_mem 89 (by decide +kernel) rfl
theorem tp_90 : (Cond.selects "FearLocksModel" ({ cls := "FearLocksModel", name := "canStand", desc := "(I)Z" } : Jvm.MethodName) ({ cls := "FearLocksModel", name := "canStand", desc := "(I)Z" } : Jvm.MethodName)) ∈ fx_TB := fx_mem 90 (by decide +kernel) rfl
theorem tp_91 : (Cond.selects "FearLocksModel" ({ cls := "FearLocksModel", name := "nextOrder", desc := "(I)Z" } : Jvm.MethodName) ({ cls := "FearLocksModel", name := "nextOrder", desc := "(I)Z" } : Jvm.MethodName)) ∈ fx_TB := fx_mem 91 (by decide +kernel) rfl
theorem tp_92 : (Cond.selects "FearLocksModel" ({ cls := "FearLocksModel", name := "changesOrder", desc := "(II)V" } : Jvm.MethodName) ({ cls := "FearLocksModel", name := "changesOrder", desc := "(II)V" } : Jvm.MethodName)) ∈ fx_TB := fx_mem 92 (by decide +kernel) rfl
theorem tp_93 : (Cond.selects "FearLocksModel" ({ cls := "FearLocksModel", name := "sleeps", desc := "(III)I" } : Jvm.MethodName) ({ cls := "FearLocksModel", name := "sleeps", desc := "(III)I" } : Jvm.MethodName)) ∈ fx_TB := fx_mem 93 (by decide +kernel) rfl
theorem tp_94 : (Cond.selects "FearLocksModel" ({ cls := "FearLocksModel", name := "twos", desc := "()I" } : Jvm.MethodName) ({ cls := "FearLocksModel", name := "twos", desc := "()I" } : Jvm.MethodName)) ∈ fx_TB := fx_mem 94 (by decide +kernel) rfl
theorem tp_95 : (Cond.selects "FearLocksModel" ({ cls := "FearLocksModel", name := "openedOfAll", desc := "()I" } : Jvm.MethodName) ({ cls := "FearLocksModel", name := "openedOfAll", desc := "()I" } : Jvm.MethodName)) ∈ fx_TB := fx_mem 95 (by decide +kernel) rfl
theorem tb_0 : (Jvm.Cond.initialized "FearLocksLaw") ∈ fx_TB := fx_m1 0 (by decide +kernel) rfl
theorem tb_1 : (Jvm.Cond.initialized "FearLocks") ∈ fx_TB := fx_m1 1 (by decide +kernel) rfl
theorem tb_2 : (Jvm.Cond.initialized "FearLocks$Tape") ∈ fx_TB := fx_m1 2 (by decide +kernel) rfl
theorem tb_3 : (Jvm.Cond.initialized "FearLocks$City") ∈ fx_TB := fx_m1 3 (by decide +kernel) rfl
theorem tb_4 : (Jvm.Cond.initialized "FearLocks$Law") ∈ fx_TB := fx_m1 4 (by decide +kernel) rfl
theorem tb_5 : (Jvm.Cond.initialized "java/lang/String") ∈ fx_TB := fx_m1 5 (by decide +kernel) rfl
theorem tb_6 : (Jvm.Cond.initialized "FearLocks$Nightfall") ∈ fx_TB := fx_m1 6 (by decide +kernel) rfl
theorem tb_7 : (Jvm.Cond.initialized "FearLocks$Keys") ∈ fx_TB := fx_m1 7 (by decide +kernel) rfl
theorem tb_8 : (Jvm.Cond.initialized "FearLocks$Company") ∈ fx_TB := fx_m1 8 (by decide +kernel) rfl
theorem tb_9 : (Jvm.Cond.initialized "FearLocks$Pastimes") ∈ fx_TB := fx_m1 9 (by decide +kernel) rfl
theorem tb_10 : (Jvm.Cond.initialized "FearLocksModel") ∈ fx_TB := fx_m1 10 (by decide +kernel) rfl
theorem tb_11 : (Jvm.Cond.initialized "FearLocks$LinesReader") ∈ fx_TB := fx_m1 11 (by decide +kernel) rfl
theorem tb_12 : (Jvm.Cond.initialized "FearLocks$LawReader") ∈ fx_TB := fx_m1 12 (by decide +kernel) rfl
theorem tb_13 : (Jvm.Cond.initialized "java/lang/Math") ∈ fx_TB := fx_m1 13 (by decide +kernel) rfl
theorem tb_14 : (Jvm.Cond.initialized "java/lang/StringLatin1") ∈ fx_TB := fx_m1 14 (by decide +kernel) rfl
theorem tb_15 : (Jvm.Cond.initialized "java/lang/StringUTF16") ∈ fx_TB := fx_m1 15 (by decide +kernel) rfl
theorem tb_16 : (Jvm.Cond.initialized "jdk/internal/util/Preconditions") ∈ fx_TB := fx_m1 16 (by decide +kernel) rfl
theorem tb_17 : (Jvm.Cond.initialized "java/lang/Character") ∈ fx_TB := fx_m1 17 (by decide +kernel) rfl
theorem tb_18 : (Jvm.Cond.initialized "FearLocks$DreadsReader") ∈ fx_TB := fx_m1 18 (by decide +kernel) rfl
theorem tb_19 : (Jvm.Cond.initialized "FearLocks$OrdersReader") ∈ fx_TB := fx_m1 19 (by decide +kernel) rfl
theorem tb_20 : (Jvm.Cond.initialized "java/lang/Integer") ∈ fx_TB := fx_m1 20 (by decide +kernel) rfl
theorem tb_21 : (Jvm.Cond.classLink "FearLocksLaw" (7 : Nat) "FearLocks") ∈ fx_TB := fx_m1 21 (by decide +kernel) rfl
theorem tb_22 : (Jvm.Cond.instantiable "FearLocks" (11 : Nat)) ∈ fx_TB := fx_m1 22 (by decide +kernel) rfl
theorem tb_23 : (Jvm.Cond.methodLink "FearLocksLaw" (9 : Nat) ({ cls := "FearLocks", name := "<init>", desc := "()V" } : Jvm.MethodName)) ∈ fx_TB := fx_m1 23 (by decide +kernel) rfl
theorem tb_24 : (Jvm.Cond.instanceMethod ({ cls := "FearLocks", name := "<init>", desc := "()V" } : Jvm.MethodName)) ∈ fx_TB := fx_m1 24 (by decide +kernel) rfl
theorem tb_25 : (Jvm.Cond.code ({ cls := "FearLocks", name := "<init>", desc := "()V" } : Jvm.MethodName) prog_1_method_1_code (1 : Nat) (Option.none : Option Jvm.ClassFile.FieldType)) ∈ fx_TB := fx_m1 25 (by decide +kernel) rfl
theorem tb_26 : (Jvm.Cond.methodLink "FearLocks" (3 : Nat) ({ cls := "java/lang/Object", name := "<init>", desc := "()V" } : Jvm.MethodName)) ∈ fx_TB := fx_m1 26 (by decide +kernel) rfl
theorem tb_27 : (Jvm.Cond.instanceMethod ({ cls := "java/lang/Object", name := "<init>", desc := "()V" } : Jvm.MethodName)) ∈ fx_TB := fx_m1 27 (by decide +kernel) rfl
theorem tb_28 : (Jvm.Cond.code ({ cls := "java/lang/Object", name := "<init>", desc := "()V" } : Jvm.MethodName) object_method_1_code (1 : Nat) (Option.none : Option Jvm.ClassFile.FieldType)) ∈ fx_TB := fx_m1 28 (by decide +kernel) rfl
theorem tb_29 : (Jvm.Cond.classLink "FearLocks" (9 : Nat) "FearLocks$Tape") ∈ fx_TB := fx_m1 29 (by decide +kernel) rfl
theorem tb_30 : (Jvm.Cond.instantiable "FearLocks$Tape" (5 : Nat)) ∈ fx_TB := fx_m1 30 (by decide +kernel) rfl
theorem tb_31 : (Jvm.Cond.methodLinkNest "FearLocks" (11 : Nat) ({ cls := "FearLocks$Tape", name := "<init>", desc := "()V" } : Jvm.MethodName) "FearLocks") ∈ fx_NW := fx_n1 31 (by decide +kernel) rfl
theorem tb_32 : (Jvm.Cond.instanceMethod ({ cls := "FearLocks$Tape", name := "<init>", desc := "()V" } : Jvm.MethodName)) ∈ fx_TB := fx_m1 32 (by decide +kernel) rfl
theorem tb_33 : (Jvm.Cond.code ({ cls := "FearLocks$Tape", name := "<init>", desc := "()V" } : Jvm.MethodName) prog_12_method_1_code (1 : Nat) (Option.none : Option Jvm.ClassFile.FieldType)) ∈ fx_TB := fx_m1 33 (by decide +kernel) rfl
theorem tb_34 : (Jvm.Cond.methodLink "FearLocks$Tape" (3 : Nat) ({ cls := "java/lang/Object", name := "<init>", desc := "()V" } : Jvm.MethodName)) ∈ fx_TB := fx_m1 34 (by decide +kernel) rfl
theorem tb_35 : (Jvm.Cond.fieldLink "FearLocks$Tape" (9 : Nat) "FearLocks$Tape" "bytes" "[I") ∈ fx_TB := fx_m1 35 (by decide +kernel) rfl
theorem tb_36 : (Jvm.Cond.fieldLink "FearLocks$Tape" (15 : Nat) "FearLocks$Tape" "size" "I") ∈ fx_TB := fx_m1 36 (by decide +kernel) rfl
theorem tb_37 : (Jvm.Cond.fieldLinkNest "FearLocks" (71 : Nat) "FearLocks$Tape" "size" "I" "FearLocks") ∈ fx_NW := fx_n1 37 (by decide +kernel) rfl
theorem tb_38 : (Jvm.Cond.fieldLink "FearLocks$Tape" (19 : Nat) "FearLocks$Tape" "end" "I") ∈ fx_TB := fx_m1 38 (by decide +kernel) rfl
theorem tb_42 : (Jvm.Cond.fieldLink "FearLocks$Tape" (22 : Nat) "FearLocks$Tape" "at" "I") ∈ fx_TB := fx_m1 42 (by decide +kernel) rfl
theorem tb_47 : (Jvm.Cond.fieldLink "FearLocks$Tape" (25 : Nat) "FearLocks$Tape" "fault" "I") ∈ fx_TB := fx_m1 47 (by decide +kernel) rfl
theorem tb_60 : (Jvm.Cond.arrayClass Jvm.ClassFile.FieldType.int) ∈ fx_TB := fx_m1 60 (by decide +kernel) rfl
theorem tb_61 : (Jvm.Cond.classLink "FearLocks" (16 : Nat) "FearLocks$City") ∈ fx_TB := fx_m1 61 (by decide +kernel) rfl
theorem tb_62 : (Jvm.Cond.instantiable "FearLocks$City" (9 : Nat)) ∈ fx_TB := fx_m1 62 (by decide +kernel) rfl
theorem tb_63 : (Jvm.Cond.methodLinkNest "FearLocks" (18 : Nat) ({ cls := "FearLocks$City", name := "<init>", desc := "()V" } : Jvm.MethodName) "FearLocks") ∈ fx_NW := fx_n1 63 (by decide +kernel) rfl
theorem tb_64 : (Jvm.Cond.instanceMethod ({ cls := "FearLocks$City", name := "<init>", desc := "()V" } : Jvm.MethodName)) ∈ fx_TB := fx_m1 64 (by decide +kernel) rfl
theorem tb_65 : (Jvm.Cond.code ({ cls := "FearLocks$City", name := "<init>", desc := "()V" } : Jvm.MethodName) prog_2_method_1_code (1 : Nat) (Option.none : Option Jvm.ClassFile.FieldType)) ∈ fx_TB := fx_m1 65 (by decide +kernel) rfl
theorem tb_66 : (Jvm.Cond.methodLink "FearLocks$City" (3 : Nat) ({ cls := "java/lang/Object", name := "<init>", desc := "()V" } : Jvm.MethodName)) ∈ fx_TB := fx_m1 66 (by decide +kernel) rfl
theorem tb_67 : (Jvm.Cond.classLink "FearLocks$City" (9 : Nat) "[[I") ∈ fx_TB := fx_m1 67 (by decide +kernel) rfl
theorem tb_68 : (Jvm.Cond.arrayOver (Jvm.ClassFile.FieldType.array Jvm.ClassFile.FieldType.int)) ∈ fx_NW := fx_n1 68 (by decide +kernel) rfl
theorem tb_69 : (Jvm.Cond.fieldLink "FearLocks$City" (11 : Nat) "FearLocks$City" "dread" "[[I") ∈ fx_TB := fx_m1 69 (by decide +kernel) rfl
theorem tb_70 : (Jvm.Cond.fieldLink "FearLocks$City" (16 : Nat) "FearLocks$City" "knows" "[I") ∈ fx_TB := fx_m1 70 (by decide +kernel) rfl
theorem tb_71 : (Jvm.Cond.fieldLinkNest "FearLocks$Company" (36 : Nat) "FearLocks$City" "knows" "[I" "FearLocks") ∈ fx_NW := fx_n1 71 (by decide +kernel) rfl
theorem tb_72 : (Jvm.Cond.fieldLink "FearLocks$City" (20 : Nat) "FearLocks$City" "doorFear" "[I") ∈ fx_TB := fx_m1 72 (by decide +kernel) rfl
theorem tb_73 : (Jvm.Cond.fieldLinkNest "FearLocks$Keys" (21 : Nat) "FearLocks$City" "doorFear" "[I" "FearLocks") ∈ fx_NW := fx_n1 73 (by decide +kernel) rfl
theorem tb_74 : (Jvm.Cond.fieldLinkNest "FearLocks$Nightfall" (93 : Nat) "FearLocks$City" "doorFear" "[I" "FearLocks") ∈ fx_NW := fx_n1 74 (by decide +kernel) rfl
theorem tb_75 : (Jvm.Cond.fieldLinkNest "FearLocks" (156 : Nat) "FearLocks$City" "doorFear" "[I" "FearLocks") ∈ fx_NW := fx_n1 75 (by decide +kernel) rfl
theorem tb_76 : (Jvm.Cond.fieldLink "FearLocks$City" (23 : Nat) "FearLocks$City" "strength" "[I") ∈ fx_TB := fx_m1 76 (by decide +kernel) rfl
theorem tb_77 : (Jvm.Cond.fieldLinkNest "FearLocks$Keys" (24 : Nat) "FearLocks$City" "strength" "[I" "FearLocks") ∈ fx_NW := fx_n1 77 (by decide +kernel) rfl
theorem tb_78 : (Jvm.Cond.fieldLinkNest "FearLocks$Nightfall" (100 : Nat) "FearLocks$City" "strength" "[I" "FearLocks") ∈ fx_NW := fx_n1 78 (by decide +kernel) rfl
theorem tb_79 : (Jvm.Cond.fieldLinkNest "FearLocks" (160 : Nat) "FearLocks$City" "strength" "[I" "FearLocks") ∈ fx_NW := fx_n1 79 (by decide +kernel) rfl
theorem tb_80 : (Jvm.Cond.fieldLink "FearLocks$City" (26 : Nat) "FearLocks$City" "opened" "[I") ∈ fx_TB := fx_m1 80 (by decide +kernel) rfl
theorem tb_81 : (Jvm.Cond.fieldLinkNest "FearLocks$Nightfall" (103 : Nat) "FearLocks$City" "opened" "[I" "FearLocks") ∈ fx_NW := fx_n1 81 (by decide +kernel) rfl
theorem tb_82 : (Jvm.Cond.fieldLinkNest "FearLocks" (163 : Nat) "FearLocks$City" "opened" "[I" "FearLocks") ∈ fx_NW := fx_n1 82 (by decide +kernel) rfl
theorem tb_83 : (Jvm.Cond.fieldLink "FearLocks$City" (29 : Nat) "FearLocks$City" "people" "I") ∈ fx_TB := fx_m1 83 (by decide +kernel) rfl
theorem tb_85 : (Jvm.Cond.fieldLinkNest "FearLocks$Company" (26 : Nat) "FearLocks$City" "people" "I" "FearLocks") ∈ fx_NW := fx_n1 85 (by decide +kernel) rfl
theorem tb_86 : (Jvm.Cond.fieldLinkNest "FearLocks" (212 : Nat) "FearLocks$City" "people" "I" "FearLocks") ∈ fx_NW := fx_n1 86 (by decide +kernel) rfl
theorem tb_87 : (Jvm.Cond.fieldLink "FearLocks$City" (33 : Nat) "FearLocks$City" "doors" "I") ∈ fx_TB := fx_m1 87 (by decide +kernel) rfl
theorem tb_88 : (Jvm.Cond.fieldLinkNest "FearLocks$Keys" (54 : Nat) "FearLocks$City" "doors" "I" "FearLocks") ∈ fx_NW := fx_n1 88 (by decide +kernel) rfl
theorem tb_89 : (Jvm.Cond.fieldLinkNest "FearLocks" (274 : Nat) "FearLocks$City" "doors" "I" "FearLocks") ∈ fx_NW := fx_n1 89 (by decide +kernel) rfl
theorem tb_90 : (Jvm.Cond.fieldLink "FearLocks$City" (36 : Nat) "FearLocks$City" "night" "I") ∈ fx_TB := fx_m1 90 (by decide +kernel) rfl
theorem tb_91 : (Jvm.Cond.fieldLinkNest "FearLocks$Nightfall" (25 : Nat) "FearLocks$City" "night" "I" "FearLocks") ∈ fx_NW := fx_n1 91 (by decide +kernel) rfl
theorem tb_92 : (Jvm.Cond.fieldLinkNest "FearLocks" (268 : Nat) "FearLocks$City" "night" "I" "FearLocks") ∈ fx_NW := fx_n1 92 (by decide +kernel) rfl
theorem tb_93 : (Jvm.Cond.fieldLink "FearLocks$City" (39 : Nat) "FearLocks$City" "x" "I") ∈ fx_TB := fx_m1 93 (by decide +kernel) rfl
theorem tb_94 : (Jvm.Cond.fieldLinkNest "FearLocks" (265 : Nat) "FearLocks$City" "x" "I" "FearLocks") ∈ fx_NW := fx_n1 94 (by decide +kernel) rfl
theorem tb_114 : (Jvm.Cond.classLink "FearLocks" (33 : Nat) "FearLocks$Law") ∈ fx_TB := fx_m1 114 (by decide +kernel) rfl
theorem tb_115 : (Jvm.Cond.instantiable "FearLocks$Law" (10 : Nat)) ∈ fx_TB := fx_m1 115 (by decide +kernel) rfl
theorem tb_116 : (Jvm.Cond.methodLinkNest "FearLocks" (35 : Nat) ({ cls := "FearLocks$Law", name := "<init>", desc := "()V" } : Jvm.MethodName) "FearLocks") ∈ fx_NW := fx_n1 116 (by decide +kernel) rfl
theorem tb_117 : (Jvm.Cond.instanceMethod ({ cls := "FearLocks$Law", name := "<init>", desc := "()V" } : Jvm.MethodName)) ∈ fx_TB := fx_m1 117 (by decide +kernel) rfl
theorem tb_118 : (Jvm.Cond.code ({ cls := "FearLocks$Law", name := "<init>", desc := "()V" } : Jvm.MethodName) prog_6_method_1_code (1 : Nat) (Option.none : Option Jvm.ClassFile.FieldType)) ∈ fx_TB := fx_m1 118 (by decide +kernel) rfl
theorem tb_119 : (Jvm.Cond.methodLink "FearLocks$Law" (3 : Nat) ({ cls := "java/lang/Object", name := "<init>", desc := "()V" } : Jvm.MethodName)) ∈ fx_TB := fx_m1 119 (by decide +kernel) rfl
theorem tb_121 : (Jvm.Cond.methodLink "FearLocks$Law" (36 : Nat) ({ cls := "java/lang/String", name := "length", desc := "()I" } : Jvm.MethodName)) ∈ fx_TB := fx_m1 121 (by decide +kernel) rfl
theorem tb_131 : (Jvm.Cond.fieldLink "FearLocks$Law" (11 : Nat) "FearLocks$Law" "step" "[I") ∈ fx_TB := fx_m1 131 (by decide +kernel) rfl
theorem tb_132 : (Jvm.Cond.fieldLink "FearLocks$Law" (15 : Nat) "FearLocks$Law" "detail" "[I") ∈ fx_TB := fx_m1 132 (by decide +kernel) rfl
theorem tb_133 : (Jvm.Cond.fieldLink "FearLocks$Law" (18 : Nat) "FearLocks$Law" "steps" "I") ∈ fx_TB := fx_m1 133 (by decide +kernel) rfl
theorem tb_134 : (Jvm.Cond.fieldLink "FearLocks$Law" (22 : Nat) "FearLocks$Law" "kind" "[I") ∈ fx_TB := fx_m1 134 (by decide +kernel) rfl
theorem tb_135 : (Jvm.Cond.fieldLink "FearLocks$Law" (25 : Nat) "FearLocks$Law" "worthFrom" "[I") ∈ fx_TB := fx_m1 135 (by decide +kernel) rfl
theorem tb_136 : (Jvm.Cond.fieldLink "FearLocks$Law" (28 : Nat) "FearLocks$Law" "conditionFrom" "[I") ∈ fx_TB := fx_m1 136 (by decide +kernel) rfl
theorem tb_137 : (Jvm.Cond.fieldLink "FearLocks$Law" (31 : Nat) "FearLocks$Law" "rules" "I") ∈ fx_TB := fx_m1 137 (by decide +kernel) rfl
theorem tb_138 : (Jvm.Cond.fieldLinkNest "FearLocks" (283 : Nat) "FearLocks$Law" "rules" "I" "FearLocks") ∈ fx_NW := fx_n1 138 (by decide +kernel) rfl
theorem tb_139 : (Jvm.Cond.fieldLink "FearLocks$Law" (42 : Nat) "FearLocks$Law" "meaning" "[I") ∈ fx_TB := fx_m1 139 (by decide +kernel) rfl
theorem tb_140 : (Jvm.Cond.fieldLink "FearLocks$Law" (45 : Nat) "FearLocks$Law" "stack" "[I") ∈ fx_TB := fx_m1 140 (by decide +kernel) rfl
theorem tb_141 : (Jvm.Cond.fieldLink "FearLocks$Law" (48 : Nat) "FearLocks$Law" "high" "I") ∈ fx_TB := fx_m1 141 (by decide +kernel) rfl
theorem tb_163 : (Jvm.Cond.arrayClass Jvm.ClassFile.FieldType.byte) ∈ fx_TB := fx_m1 163 (by decide +kernel) rfl
theorem tb_164 : (Jvm.Cond.classLink "FearLocks" (43 : Nat) "FearLocks$Nightfall") ∈ fx_TB := fx_m1 164 (by decide +kernel) rfl
theorem tb_165 : (Jvm.Cond.instantiable "FearLocks$Nightfall" (3 : Nat)) ∈ fx_TB := fx_m1 165 (by decide +kernel) rfl
theorem tb_166 : (Jvm.Cond.methodLinkNest "FearLocks" (45 : Nat) ({ cls := "FearLocks$Nightfall", name := "<init>", desc := "()V" } : Jvm.MethodName) "FearLocks") ∈ fx_NW := fx_n1 166 (by decide +kernel) rfl
theorem tb_167 : (Jvm.Cond.instanceMethod ({ cls := "FearLocks$Nightfall", name := "<init>", desc := "()V" } : Jvm.MethodName)) ∈ fx_TB := fx_m1 167 (by decide +kernel) rfl
theorem tb_168 : (Jvm.Cond.code ({ cls := "FearLocks$Nightfall", name := "<init>", desc := "()V" } : Jvm.MethodName) prog_9_method_1_code (1 : Nat) (Option.none : Option Jvm.ClassFile.FieldType)) ∈ fx_TB := fx_m1 168 (by decide +kernel) rfl
theorem tb_169 : (Jvm.Cond.methodLink "FearLocks$Nightfall" (3 : Nat) ({ cls := "java/lang/Object", name := "<init>", desc := "()V" } : Jvm.MethodName)) ∈ fx_TB := fx_m1 169 (by decide +kernel) rfl
theorem tb_170 : (Jvm.Cond.classLink "FearLocks$Nightfall" (9 : Nat) "FearLocks$City") ∈ fx_TB := fx_m1 170 (by decide +kernel) rfl
theorem tb_171 : (Jvm.Cond.methodLinkNest "FearLocks$Nightfall" (11 : Nat) ({ cls := "FearLocks$City", name := "<init>", desc := "()V" } : Jvm.MethodName) "FearLocks") ∈ fx_NW := fx_n1 171 (by decide +kernel) rfl
theorem tb_172 : (Jvm.Cond.fieldLink "FearLocks$Nightfall" (12 : Nat) "FearLocks$Nightfall" "behindDoors" "LFearLocks$City;") ∈ fx_TB := fx_m1 172 (by decide +kernel) rfl
theorem tb_173 : (Jvm.Cond.fieldLink "FearLocks$Nightfall" (18 : Nat) "FearLocks$Nightfall" "openings" "I") ∈ fx_TB := fx_m1 173 (by decide +kernel) rfl
theorem tb_174 : (Jvm.Cond.fieldLinkNest "FearLocks" (118 : Nat) "FearLocks$Nightfall" "openings" "I" "FearLocks") ∈ fx_NW := fx_n1 174 (by decide +kernel) rfl
theorem tb_175 : (Jvm.Cond.fieldLink "FearLocks$Nightfall" (22 : Nat) "FearLocks$Nightfall" "failures" "I") ∈ fx_TB := fx_m1 175 (by decide +kernel) rfl
theorem tb_176 : (Jvm.Cond.fieldLinkNest "FearLocks" (125 : Nat) "FearLocks$Nightfall" "failures" "I" "FearLocks") ∈ fx_NW := fx_n1 176 (by decide +kernel) rfl
theorem tb_184 : (Jvm.Cond.classLink "FearLocks" (50 : Nat) "FearLocks$Keys") ∈ fx_TB := fx_m1 184 (by decide +kernel) rfl
theorem tb_185 : (Jvm.Cond.instantiable "FearLocks$Keys" (1 : Nat)) ∈ fx_TB := fx_m1 185 (by decide +kernel) rfl
theorem tb_186 : (Jvm.Cond.methodLinkNest "FearLocks" (52 : Nat) ({ cls := "FearLocks$Keys", name := "<init>", desc := "()V" } : Jvm.MethodName) "FearLocks") ∈ fx_NW := fx_n1 186 (by decide +kernel) rfl
theorem tb_187 : (Jvm.Cond.instanceMethod ({ cls := "FearLocks$Keys", name := "<init>", desc := "()V" } : Jvm.MethodName)) ∈ fx_TB := fx_m1 187 (by decide +kernel) rfl
theorem tb_188 : (Jvm.Cond.code ({ cls := "FearLocks$Keys", name := "<init>", desc := "()V" } : Jvm.MethodName) prog_5_method_1_code (1 : Nat) (Option.none : Option Jvm.ClassFile.FieldType)) ∈ fx_TB := fx_m1 188 (by decide +kernel) rfl
theorem tb_189 : (Jvm.Cond.methodLink "FearLocks$Keys" (3 : Nat) ({ cls := "java/lang/Object", name := "<init>", desc := "()V" } : Jvm.MethodName)) ∈ fx_TB := fx_m1 189 (by decide +kernel) rfl
theorem tb_190 : (Jvm.Cond.fieldLink "FearLocks$Keys" (9 : Nat) "FearLocks$Keys" "opens" "[I") ∈ fx_TB := fx_m1 190 (by decide +kernel) rfl
theorem tb_194 : (Jvm.Cond.classLink "FearLocks" (57 : Nat) "FearLocks$Company") ∈ fx_TB := fx_m1 194 (by decide +kernel) rfl
theorem tb_195 : (Jvm.Cond.instantiable "FearLocks$Company" (2 : Nat)) ∈ fx_TB := fx_m1 195 (by decide +kernel) rfl
theorem tb_196 : (Jvm.Cond.methodLinkNest "FearLocks" (59 : Nat) ({ cls := "FearLocks$Company", name := "<init>", desc := "()V" } : Jvm.MethodName) "FearLocks") ∈ fx_NW := fx_n1 196 (by decide +kernel) rfl
theorem tb_197 : (Jvm.Cond.instanceMethod ({ cls := "FearLocks$Company", name := "<init>", desc := "()V" } : Jvm.MethodName)) ∈ fx_TB := fx_m1 197 (by decide +kernel) rfl
theorem tb_198 : (Jvm.Cond.code ({ cls := "FearLocks$Company", name := "<init>", desc := "()V" } : Jvm.MethodName) prog_3_method_1_code (1 : Nat) (Option.none : Option Jvm.ClassFile.FieldType)) ∈ fx_TB := fx_m1 198 (by decide +kernel) rfl
theorem tb_199 : (Jvm.Cond.methodLink "FearLocks$Company" (3 : Nat) ({ cls := "java/lang/Object", name := "<init>", desc := "()V" } : Jvm.MethodName)) ∈ fx_TB := fx_m1 199 (by decide +kernel) rfl
theorem tb_200 : (Jvm.Cond.fieldLink "FearLocks$Company" (9 : Nat) "FearLocks$Company" "links" "[I") ∈ fx_TB := fx_m1 200 (by decide +kernel) rfl
theorem tb_201 : (Jvm.Cond.fieldLink "FearLocks$Company" (15 : Nat) "FearLocks$Company" "couplesIn" "[I") ∈ fx_TB := fx_m1 201 (by decide +kernel) rfl
theorem tb_207 : (Jvm.Cond.classLink "FearLocks" (64 : Nat) "FearLocks$Pastimes") ∈ fx_TB := fx_m1 207 (by decide +kernel) rfl
theorem tb_208 : (Jvm.Cond.instantiable "FearLocks$Pastimes" (2 : Nat)) ∈ fx_TB := fx_m1 208 (by decide +kernel) rfl
theorem tb_209 : (Jvm.Cond.methodLinkNest "FearLocks" (66 : Nat) ({ cls := "FearLocks$Pastimes", name := "<init>", desc := "()V" } : Jvm.MethodName) "FearLocks") ∈ fx_NW := fx_n1 209 (by decide +kernel) rfl
theorem tb_210 : (Jvm.Cond.instanceMethod ({ cls := "FearLocks$Pastimes", name := "<init>", desc := "()V" } : Jvm.MethodName)) ∈ fx_TB := fx_m1 210 (by decide +kernel) rfl
theorem tb_211 : (Jvm.Cond.code ({ cls := "FearLocks$Pastimes", name := "<init>", desc := "()V" } : Jvm.MethodName) prog_11_method_1_code (1 : Nat) (Option.none : Option Jvm.ClassFile.FieldType)) ∈ fx_TB := fx_m1 211 (by decide +kernel) rfl
theorem tb_212 : (Jvm.Cond.methodLink "FearLocks$Pastimes" (3 : Nat) ({ cls := "java/lang/Object", name := "<init>", desc := "()V" } : Jvm.MethodName)) ∈ fx_TB := fx_m1 212 (by decide +kernel) rfl
theorem tb_213 : (Jvm.Cond.fieldLink "FearLocks$Pastimes" (9 : Nat) "FearLocks$Pastimes" "guardFear" "[I") ∈ fx_TB := fx_m1 213 (by decide +kernel) rfl
theorem tb_214 : (Jvm.Cond.fieldLink "FearLocks$Pastimes" (15 : Nat) "FearLocks$Pastimes" "words" "[J") ∈ fx_TB := fx_m1 214 (by decide +kernel) rfl
theorem tb_220 : (Jvm.Cond.arrayClass Jvm.ClassFile.FieldType.long) ∈ fx_TB := fx_m1 220 (by decide +kernel) rfl
theorem tb_221 : (Jvm.Cond.fieldLink "FearLocks" (12 : Nat) "FearLocks" "tape" "LFearLocks$Tape;") ∈ fx_TB := fx_m1 221 (by decide +kernel) rfl
theorem tb_222 : (Jvm.Cond.fieldLink "FearLocks" (19 : Nat) "FearLocks" "city" "LFearLocks$City;") ∈ fx_TB := fx_m1 222 (by decide +kernel) rfl
theorem tb_223 : (Jvm.Cond.fieldLink "FearLocks" (23 : Nat) "FearLocks" "draft" "LFearLocks$City;") ∈ fx_TB := fx_m1 223 (by decide +kernel) rfl
theorem tb_224 : (Jvm.Cond.fieldLink "FearLocks" (26 : Nat) "FearLocks" "kept" "LFearLocks$City;") ∈ fx_TB := fx_m1 224 (by decide +kernel) rfl
theorem tb_225 : (Jvm.Cond.fieldLink "FearLocks" (29 : Nat) "FearLocks" "everKept" "Z") ∈ fx_TB := fx_m1 225 (by decide +kernel) rfl
theorem tb_226 : (Jvm.Cond.fieldLink "FearLocks" (36 : Nat) "FearLocks" "inForce" "LFearLocks$Law;") ∈ fx_TB := fx_m1 226 (by decide +kernel) rfl
theorem tb_227 : (Jvm.Cond.fieldLink "FearLocks" (40 : Nat) "FearLocks" "spare" "LFearLocks$Law;") ∈ fx_TB := fx_m1 227 (by decide +kernel) rfl
theorem tb_228 : (Jvm.Cond.fieldLink "FearLocks" (46 : Nat) "FearLocks" "nightfall" "LFearLocks$Nightfall;") ∈ fx_TB := fx_m1 228 (by decide +kernel) rfl
theorem tb_229 : (Jvm.Cond.fieldLink "FearLocks" (53 : Nat) "FearLocks" "keys" "LFearLocks$Keys;") ∈ fx_TB := fx_m1 229 (by decide +kernel) rfl
theorem tb_230 : (Jvm.Cond.fieldLink "FearLocks" (60 : Nat) "FearLocks" "company" "LFearLocks$Company;") ∈ fx_TB := fx_m1 230 (by decide +kernel) rfl
theorem tb_231 : (Jvm.Cond.fieldLink "FearLocks" (67 : Nat) "FearLocks" "pastimes" "LFearLocks$Pastimes;") ∈ fx_TB := fx_m1 231 (by decide +kernel) rfl
theorem tb_255 : (Jvm.Cond.methodLink "FearLocksLaw" (13 : Nat) ({ cls := "FearLocks", name := "feed", desc := "(IIIII)I" } : Jvm.MethodName)) ∈ fx_TB := fx_m2 15 (by decide +kernel) rfl
theorem tb_256 : (Jvm.Cond.instanceMethod ({ cls := "FearLocks", name := "feed", desc := "(IIIII)I" } : Jvm.MethodName)) ∈ fx_TB := fx_m2 16 (by decide +kernel) rfl
theorem tb_257 : (Jvm.Cond.selects "FearLocks" ({ cls := "FearLocks", name := "feed", desc := "(IIIII)I" } : Jvm.MethodName) ({ cls := "FearLocks", name := "feed", desc := "(IIIII)I" } : Jvm.MethodName)) ∈ fx_TB := fx_m2 17 (by decide +kernel) rfl
theorem tb_258 : (Jvm.Cond.code ({ cls := "FearLocks", name := "feed", desc := "(IIIII)I" } : Jvm.MethodName) prog_1_method_2_code (6 : Nat) (Option.some Jvm.ClassFile.FieldType.int)) ∈ fx_TB := fx_m2 18 (by decide +kernel) rfl
theorem tb_259 : (Jvm.Cond.methodLink "FearLocks" (75 : Nat) ({ cls := "FearLocks$Tape", name := "append", desc := "(I)V" } : Jvm.MethodName)) ∈ fx_TB := fx_m2 19 (by decide +kernel) rfl
theorem tb_260 : (Jvm.Cond.instanceMethod ({ cls := "FearLocks$Tape", name := "append", desc := "(I)V" } : Jvm.MethodName)) ∈ fx_TB := fx_m2 20 (by decide +kernel) rfl
theorem tb_261 : (Jvm.Cond.selects "FearLocks$Tape" ({ cls := "FearLocks$Tape", name := "append", desc := "(I)V" } : Jvm.MethodName) ({ cls := "FearLocks$Tape", name := "append", desc := "(I)V" } : Jvm.MethodName)) ∈ fx_TB := fx_m2 21 (by decide +kernel) rfl
theorem tb_262 : (Jvm.Cond.code ({ cls := "FearLocks$Tape", name := "append", desc := "(I)V" } : Jvm.MethodName) prog_12_method_2_code (3 : Nat) (Option.none : Option Jvm.ClassFile.FieldType)) ∈ fx_TB := fx_m2 22 (by decide +kernel) rfl
theorem tb_263 : (Jvm.Cond.methodLink "FearLocksLaw" (18 : Nat) ({ cls := "FearLocks", name := "law", desc := "(I)I" } : Jvm.MethodName)) ∈ fx_TB := fx_m2 23 (by decide +kernel) rfl
theorem tb_264 : (Jvm.Cond.instanceMethod ({ cls := "FearLocks", name := "law", desc := "(I)I" } : Jvm.MethodName)) ∈ fx_TB := fx_m2 24 (by decide +kernel) rfl
theorem tb_265 : (Jvm.Cond.selects "FearLocks" ({ cls := "FearLocks", name := "law", desc := "(I)I" } : Jvm.MethodName) ({ cls := "FearLocks", name := "law", desc := "(I)I" } : Jvm.MethodName)) ∈ fx_TB := fx_m2 25 (by decide +kernel) rfl
theorem tb_266 : (Jvm.Cond.code ({ cls := "FearLocks", name := "law", desc := "(I)I" } : Jvm.MethodName) prog_1_method_3_code (4 : Nat) (Option.some Jvm.ClassFile.FieldType.int)) ∈ fx_TB := fx_m2 26 (by decide +kernel) rfl
theorem tb_267 : (Jvm.Cond.methodLink "FearLocks" (79 : Nat) ({ cls := "FearLocks$Tape", name := "holds", desc := "(III)Z" } : Jvm.MethodName)) ∈ fx_TB := fx_m2 27 (by decide +kernel) rfl
theorem tb_268 : (Jvm.Cond.instanceMethod ({ cls := "FearLocks$Tape", name := "holds", desc := "(III)Z" } : Jvm.MethodName)) ∈ fx_TB := fx_m2 28 (by decide +kernel) rfl
theorem tb_269 : (Jvm.Cond.selects "FearLocks$Tape" ({ cls := "FearLocks$Tape", name := "holds", desc := "(III)Z" } : Jvm.MethodName) ({ cls := "FearLocks$Tape", name := "holds", desc := "(III)Z" } : Jvm.MethodName)) ∈ fx_TB := fx_m2 29 (by decide +kernel) rfl
theorem tb_270 : (Jvm.Cond.code ({ cls := "FearLocks$Tape", name := "holds", desc := "(III)Z" } : Jvm.MethodName) prog_12_method_3_code (4 : Nat) (Option.some Jvm.ClassFile.FieldType.boolean)) ∈ fx_TB := fx_m2 30 (by decide +kernel) rfl
theorem tb_271 : (Jvm.Cond.methodLink "FearLocks" (83 : Nat) ({ cls := "FearLocks$Tape", name := "take", desc := "(I)V" } : Jvm.MethodName)) ∈ fx_TB := fx_m2 31 (by decide +kernel) rfl
theorem tb_272 : (Jvm.Cond.instanceMethod ({ cls := "FearLocks$Tape", name := "take", desc := "(I)V" } : Jvm.MethodName)) ∈ fx_TB := fx_m2 32 (by decide +kernel) rfl
theorem tb_273 : (Jvm.Cond.selects "FearLocks$Tape" ({ cls := "FearLocks$Tape", name := "take", desc := "(I)V" } : Jvm.MethodName) ({ cls := "FearLocks$Tape", name := "take", desc := "(I)V" } : Jvm.MethodName)) ∈ fx_TB := fx_m2 33 (by decide +kernel) rfl
theorem tb_274 : (Jvm.Cond.code ({ cls := "FearLocks$Tape", name := "take", desc := "(I)V" } : Jvm.MethodName) prog_12_method_4_code (2 : Nat) (Option.none : Option Jvm.ClassFile.FieldType)) ∈ fx_TB := fx_m2 34 (by decide +kernel) rfl
theorem tb_275 : (Jvm.Cond.methodLink "FearLocks" (86 : Nat) ({ cls := "FearLocks$Law", name := "clear", desc := "()V" } : Jvm.MethodName)) ∈ fx_TB := fx_m2 35 (by decide +kernel) rfl
theorem tb_276 : (Jvm.Cond.instanceMethod ({ cls := "FearLocks$Law", name := "clear", desc := "()V" } : Jvm.MethodName)) ∈ fx_TB := fx_m2 36 (by decide +kernel) rfl
theorem tb_277 : (Jvm.Cond.selects "FearLocks$Law" ({ cls := "FearLocks$Law", name := "clear", desc := "()V" } : Jvm.MethodName) ({ cls := "FearLocks$Law", name := "clear", desc := "()V" } : Jvm.MethodName)) ∈ fx_TB := fx_m2 37 (by decide +kernel) rfl
theorem tb_278 : (Jvm.Cond.code ({ cls := "FearLocks$Law", name := "clear", desc := "()V" } : Jvm.MethodName) prog_6_method_2_code (1 : Nat) (Option.none : Option Jvm.ClassFile.FieldType)) ∈ fx_TB := fx_m2 38 (by decide +kernel) rfl
theorem tb_279 : (Jvm.Cond.classLink "FearLocks" (89 : Nat) "FearLocks$LawReader") ∈ fx_TB := fx_m2 39 (by decide +kernel) rfl
theorem tb_281 : (Jvm.Cond.methodLink "FearLocks" (91 : Nat) ({ cls := "FearLocks$LawReader", name := "<init>", desc := "(LFearLocks$Tape;LFearLocks$Law;)V" } : Jvm.MethodName)) ∈ fx_TB := fx_m2 41 (by decide +kernel) rfl
theorem tb_301 : (Jvm.Cond.methodLink "FearLocks" (94 : Nat) ({ cls := "FearLocks$LawReader", name := "readLines", desc := "(I)I" } : Jvm.MethodName)) ∈ fx_TB := fx_m2 61 (by decide +kernel) rfl
theorem tb_308 : (Jvm.Cond.instanceMethod ({ cls := "FearLocks$Tape", name := "expect", desc := "(I)Z" } : Jvm.MethodName)) ∈ fx_TB := fx_m2 68 (by decide +kernel) rfl
theorem tb_309 : (Jvm.Cond.selects "FearLocks$Tape" ({ cls := "FearLocks$Tape", name := "expect", desc := "(I)Z" } : Jvm.MethodName) ({ cls := "FearLocks$Tape", name := "expect", desc := "(I)Z" } : Jvm.MethodName)) ∈ fx_TB := fx_m2 69 (by decide +kernel) rfl
theorem tb_310 : (Jvm.Cond.code ({ cls := "FearLocks$Tape", name := "expect", desc := "(I)Z" } : Jvm.MethodName) prog_12_method_9_code (2 : Nat) (Option.some Jvm.ClassFile.FieldType.boolean)) ∈ fx_TB := fx_m2 70 (by decide +kernel) rfl
theorem tb_311 : (Jvm.Cond.methodLink "FearLocks$Tape" (32 : Nat) ({ cls := "FearLocks$Tape", name := "now", desc := "()I" } : Jvm.MethodName)) ∈ fx_TB := fx_m2 71 (by decide +kernel) rfl
theorem tb_312 : (Jvm.Cond.instanceMethod ({ cls := "FearLocks$Tape", name := "now", desc := "()I" } : Jvm.MethodName)) ∈ fx_TB := fx_m2 72 (by decide +kernel) rfl
theorem tb_313 : (Jvm.Cond.selects "FearLocks$Tape" ({ cls := "FearLocks$Tape", name := "now", desc := "()I" } : Jvm.MethodName) ({ cls := "FearLocks$Tape", name := "now", desc := "()I" } : Jvm.MethodName)) ∈ fx_TB := fx_m2 73 (by decide +kernel) rfl
theorem tb_314 : (Jvm.Cond.code ({ cls := "FearLocks$Tape", name := "now", desc := "()I" } : Jvm.MethodName) prog_12_method_6_code (1 : Nat) (Option.some Jvm.ClassFile.FieldType.int)) ∈ fx_TB := fx_m2 74 (by decide +kernel) rfl
theorem tb_315 : (Jvm.Cond.methodLink "FearLocks$Tape" (28 : Nat) ({ cls := "FearLocks$Tape", name := "fail", desc := "(II)Z" } : Jvm.MethodName)) ∈ fx_TB := fx_m2 75 (by decide +kernel) rfl
theorem tb_316 : (Jvm.Cond.instanceMethod ({ cls := "FearLocks$Tape", name := "fail", desc := "(II)Z" } : Jvm.MethodName)) ∈ fx_TB := fx_m2 76 (by decide +kernel) rfl
theorem tb_317 : (Jvm.Cond.selects "FearLocks$Tape" ({ cls := "FearLocks$Tape", name := "fail", desc := "(II)Z" } : Jvm.MethodName) ({ cls := "FearLocks$Tape", name := "fail", desc := "(II)Z" } : Jvm.MethodName)) ∈ fx_TB := fx_m2 77 (by decide +kernel) rfl
theorem tb_318 : (Jvm.Cond.code ({ cls := "FearLocks$Tape", name := "fail", desc := "(II)Z" } : Jvm.MethodName) prog_12_method_7_code (3 : Nat) (Option.some Jvm.ClassFile.FieldType.boolean)) ∈ fx_TB := fx_m2 78 (by decide +kernel) rfl
theorem tb_327 : (Jvm.Cond.static ({ cls := "FearLocks$Tape", name := "isFear", desc := "(I)Z" } : Jvm.MethodName)) ∈ fx_TB := fx_m2 87 (by decide +kernel) rfl
theorem tb_328 : (Jvm.Cond.code ({ cls := "FearLocks$Tape", name := "isFear", desc := "(I)Z" } : Jvm.MethodName) prog_12_method_12_code (1 : Nat) (Option.some Jvm.ClassFile.FieldType.boolean)) ∈ fx_TB := fx_m2 88 (by decide +kernel) rfl
theorem tb_336 : (Jvm.Cond.static ({ cls := "FearLocks$Tape", name := "isDigit", desc := "(I)Z" } : Jvm.MethodName)) ∈ fx_TB := fx_m2 96 (by decide +kernel) rfl
theorem tb_337 : (Jvm.Cond.code ({ cls := "FearLocks$Tape", name := "isDigit", desc := "(I)Z" } : Jvm.MethodName) prog_12_method_11_code (1 : Nat) (Option.some Jvm.ClassFile.FieldType.boolean)) ∈ fx_TB := fx_m2 97 (by decide +kernel) rfl
theorem tb_339 : (Jvm.Cond.instanceMethod ({ cls := "FearLocks$Tape", name := "cannotStand", desc := "()Z" } : Jvm.MethodName)) ∈ fx_TB := fx_m2 99 (by decide +kernel) rfl
theorem tb_340 : (Jvm.Cond.selects "FearLocks$Tape" ({ cls := "FearLocks$Tape", name := "cannotStand", desc := "()Z" } : Jvm.MethodName) ({ cls := "FearLocks$Tape", name := "cannotStand", desc := "()Z" } : Jvm.MethodName)) ∈ fx_TB := fx_m2 100 (by decide +kernel) rfl
theorem tb_341 : (Jvm.Cond.code ({ cls := "FearLocks$Tape", name := "cannotStand", desc := "()Z" } : Jvm.MethodName) prog_12_method_8_code (1 : Nat) (Option.some Jvm.ClassFile.FieldType.boolean)) ∈ fx_TB := fx_m2 101 (by decide +kernel) rfl
theorem tb_357 : (Jvm.Cond.static ({ cls := "FearLocks", name := "has", desc := "(II)Z" } : Jvm.MethodName)) ∈ fx_TB := fx_m2 117 (by decide +kernel) rfl
theorem tb_358 : (Jvm.Cond.code ({ cls := "FearLocks", name := "has", desc := "(II)Z" } : Jvm.MethodName) prog_1_method_33_code (2 : Nat) (Option.some Jvm.ClassFile.FieldType.boolean)) ∈ fx_TB := fx_m2 118 (by decide +kernel) rfl
theorem tb_362 : (Jvm.Cond.instanceMethod ({ cls := "FearLocks$Tape", name := "readNumber", desc := "(I)I" } : Jvm.MethodName)) ∈ fx_TB := fx_m2 122 (by decide +kernel) rfl
theorem tb_363 : (Jvm.Cond.selects "FearLocks$Tape" ({ cls := "FearLocks$Tape", name := "readNumber", desc := "(I)I" } : Jvm.MethodName) ({ cls := "FearLocks$Tape", name := "readNumber", desc := "(I)I" } : Jvm.MethodName)) ∈ fx_TB := fx_m2 123 (by decide +kernel) rfl
theorem tb_364 : (Jvm.Cond.code ({ cls := "FearLocks$Tape", name := "readNumber", desc := "(I)I" } : Jvm.MethodName) prog_12_method_10_code (4 : Nat) (Option.some Jvm.ClassFile.FieldType.int)) ∈ fx_TB := fx_m2 124 (by decide +kernel) rfl
theorem tb_365 : (Jvm.Cond.methodLink "FearLocks$Tape" (36 : Nat) ({ cls := "FearLocks$Tape", name := "isDigit", desc := "(I)Z" } : Jvm.MethodName)) ∈ fx_TB := fx_m2 125 (by decide +kernel) rfl
theorem tb_371 : (Jvm.Cond.instanceMethod ({ cls := "FearLocks$City", name := "dreadOf", desc := "(II)I" } : Jvm.MethodName)) ∈ fx_TB := fx_m2 131 (by decide +kernel) rfl
theorem tb_372 : (Jvm.Cond.selects "FearLocks$City" ({ cls := "FearLocks$City", name := "dreadOf", desc := "(II)I" } : Jvm.MethodName) ({ cls := "FearLocks$City", name := "dreadOf", desc := "(II)I" } : Jvm.MethodName)) ∈ fx_TB := fx_m2 132 (by decide +kernel) rfl
theorem tb_373 : (Jvm.Cond.code ({ cls := "FearLocks$City", name := "dreadOf", desc := "(II)I" } : Jvm.MethodName) prog_2_method_4_code (3 : Nat) (Option.some Jvm.ClassFile.FieldType.int)) ∈ fx_TB := fx_m2 133 (by decide +kernel) rfl
theorem tb_375 : (Jvm.Cond.instanceMethod ({ cls := "FearLocks$City", name := "setDread", desc := "(III)V" } : Jvm.MethodName)) ∈ fx_TB := fx_m2 135 (by decide +kernel) rfl
theorem tb_376 : (Jvm.Cond.selects "FearLocks$City" ({ cls := "FearLocks$City", name := "setDread", desc := "(III)V" } : Jvm.MethodName) ({ cls := "FearLocks$City", name := "setDread", desc := "(III)V" } : Jvm.MethodName)) ∈ fx_TB := fx_m2 136 (by decide +kernel) rfl
theorem tb_377 : (Jvm.Cond.code ({ cls := "FearLocks$City", name := "setDread", desc := "(III)V" } : Jvm.MethodName) prog_2_method_5_code (4 : Nat) (Option.none : Option Jvm.ClassFile.FieldType)) ∈ fx_TB := fx_m2 137 (by decide +kernel) rfl
theorem tb_378 : (Jvm.Cond.methodLinkNest "FearLocks$City" (46 : Nat) ({ cls := "FearLocks", name := "bounded", desc := "(III)I" } : Jvm.MethodName) "FearLocks") ∈ fx_NW := fx_n2 138 (by decide +kernel) rfl
theorem tb_379 : (Jvm.Cond.static ({ cls := "FearLocks", name := "bounded", desc := "(III)I" } : Jvm.MethodName)) ∈ fx_TB := fx_m2 139 (by decide +kernel) rfl
theorem tb_380 : (Jvm.Cond.code ({ cls := "FearLocks", name := "bounded", desc := "(III)I" } : Jvm.MethodName) prog_1_method_32_code (3 : Nat) (Option.some Jvm.ClassFile.FieldType.int)) ∈ fx_TB := fx_m2 140 (by decide +kernel) rfl
theorem tb_381 : (Jvm.Cond.methodLink "FearLocks" (286 : Nat) ({ cls := "java/lang/Math", name := "min", desc := "(II)I" } : Jvm.MethodName)) ∈ fx_TB := fx_m2 141 (by decide +kernel) rfl
theorem tb_382 : (Jvm.Cond.static ({ cls := "java/lang/Math", name := "min", desc := "(II)I" } : Jvm.MethodName)) ∈ fx_TB := fx_m2 142 (by decide +kernel) rfl
theorem tb_383 : (Jvm.Cond.code ({ cls := "java/lang/Math", name := "min", desc := "(II)I" } : Jvm.MethodName) prog_17_method_69_code (2 : Nat) (Option.some Jvm.ClassFile.FieldType.int)) ∈ fx_TB := fx_m2 143 (by decide +kernel) rfl
theorem tb_384 : (Jvm.Cond.methodLink "FearLocks" (291 : Nat) ({ cls := "java/lang/Math", name := "max", desc := "(II)I" } : Jvm.MethodName)) ∈ fx_TB := fx_m2 144 (by decide +kernel) rfl
theorem tb_385 : (Jvm.Cond.static ({ cls := "java/lang/Math", name := "max", desc := "(II)I" } : Jvm.MethodName)) ∈ fx_TB := fx_m2 145 (by decide +kernel) rfl
theorem tb_386 : (Jvm.Cond.code ({ cls := "java/lang/Math", name := "max", desc := "(II)I" } : Jvm.MethodName) prog_17_method_65_code (2 : Nat) (Option.some Jvm.ClassFile.FieldType.int)) ∈ fx_TB := fx_m2 146 (by decide +kernel) rfl
theorem tb_392 : (Jvm.Cond.instanceMethod ({ cls := "FearLocks$Law", name := "startRule", desc := "(I)V" } : Jvm.MethodName)) ∈ fx_TB := fx_m2 152 (by decide +kernel) rfl
theorem tb_393 : (Jvm.Cond.selects "FearLocks$Law" ({ cls := "FearLocks$Law", name := "startRule", desc := "(I)V" } : Jvm.MethodName) ({ cls := "FearLocks$Law", name := "startRule", desc := "(I)V" } : Jvm.MethodName)) ∈ fx_TB := fx_m2 153 (by decide +kernel) rfl
theorem tb_394 : (Jvm.Cond.code ({ cls := "FearLocks$Law", name := "startRule", desc := "(I)V" } : Jvm.MethodName) prog_6_method_3_code (2 : Nat) (Option.none : Option Jvm.ClassFile.FieldType)) ∈ fx_TB := fx_m2 154 (by decide +kernel) rfl
theorem tb_416 : (Jvm.Cond.instanceMethod ({ cls := "FearLocks$Law", name := "add", desc := "(II)I" } : Jvm.MethodName)) ∈ fx_TB := fx_m2 176 (by decide +kernel) rfl
theorem tb_417 : (Jvm.Cond.selects "FearLocks$Law" ({ cls := "FearLocks$Law", name := "add", desc := "(II)I" } : Jvm.MethodName) ({ cls := "FearLocks$Law", name := "add", desc := "(II)I" } : Jvm.MethodName)) ∈ fx_TB := fx_m2 177 (by decide +kernel) rfl
theorem tb_418 : (Jvm.Cond.code ({ cls := "FearLocks$Law", name := "add", desc := "(II)I" } : Jvm.MethodName) prog_6_method_6_code (3 : Nat) (Option.some Jvm.ClassFile.FieldType.int)) ∈ fx_TB := fx_m2 178 (by decide +kernel) rfl
theorem tb_498 : (Jvm.Cond.instanceMethod ({ cls := "FearLocks$Law", name := "startCondition", desc := "()V" } : Jvm.MethodName)) ∈ fx_TB := fx_m3 18 (by decide +kernel) rfl
theorem tb_499 : (Jvm.Cond.selects "FearLocks$Law" ({ cls := "FearLocks$Law", name := "startCondition", desc := "()V" } : Jvm.MethodName) ({ cls := "FearLocks$Law", name := "startCondition", desc := "()V" } : Jvm.MethodName)) ∈ fx_TB := fx_m3 19 (by decide +kernel) rfl
theorem tb_500 : (Jvm.Cond.code ({ cls := "FearLocks$Law", name := "startCondition", desc := "()V" } : Jvm.MethodName) prog_6_method_4_code (1 : Nat) (Option.none : Option Jvm.ClassFile.FieldType)) ∈ fx_TB := fx_m3 20 (by decide +kernel) rfl
theorem tb_522 : (Jvm.Cond.instanceMethod ({ cls := "FearLocks$Law", name := "leadHere", desc := "(I)V" } : Jvm.MethodName)) ∈ fx_TB := fx_m3 42 (by decide +kernel) rfl
theorem tb_523 : (Jvm.Cond.selects "FearLocks$Law" ({ cls := "FearLocks$Law", name := "leadHere", desc := "(I)V" } : Jvm.MethodName) ({ cls := "FearLocks$Law", name := "leadHere", desc := "(I)V" } : Jvm.MethodName)) ∈ fx_TB := fx_m3 43 (by decide +kernel) rfl
theorem tb_524 : (Jvm.Cond.code ({ cls := "FearLocks$Law", name := "leadHere", desc := "(I)V" } : Jvm.MethodName) prog_6_method_7_code (2 : Nat) (Option.none : Option Jvm.ClassFile.FieldType)) ∈ fx_TB := fx_m3 44 (by decide +kernel) rfl
theorem tb_526 : (Jvm.Cond.instanceMethod ({ cls := "FearLocks$Law", name := "endRule", desc := "()V" } : Jvm.MethodName)) ∈ fx_TB := fx_m3 46 (by decide +kernel) rfl
theorem tb_527 : (Jvm.Cond.selects "FearLocks$Law" ({ cls := "FearLocks$Law", name := "endRule", desc := "()V" } : Jvm.MethodName) ({ cls := "FearLocks$Law", name := "endRule", desc := "()V" } : Jvm.MethodName)) ∈ fx_TB := fx_m3 47 (by decide +kernel) rfl
theorem tb_528 : (Jvm.Cond.code ({ cls := "FearLocks$Law", name := "endRule", desc := "()V" } : Jvm.MethodName) prog_6_method_5_code (1 : Nat) (Option.none : Option Jvm.ClassFile.FieldType)) ∈ fx_TB := fx_m3 48 (by decide +kernel) rfl
theorem tb_529 : (Jvm.Cond.methodLink "FearLocks$Law" (51 : Nat) ({ cls := "java/lang/Math", name := "min", desc := "(II)I" } : Jvm.MethodName)) ∈ fx_TB := fx_m3 49 (by decide +kernel) rfl
theorem tb_542 : (Jvm.Cond.instanceMethod ({ cls := "FearLocks$City", name := "isDoor", desc := "(I)Z" } : Jvm.MethodName)) ∈ fx_TB := fx_m3 62 (by decide +kernel) rfl
theorem tb_543 : (Jvm.Cond.selects "FearLocks$City" ({ cls := "FearLocks$City", name := "isDoor", desc := "(I)Z" } : Jvm.MethodName) ({ cls := "FearLocks$City", name := "isDoor", desc := "(I)Z" } : Jvm.MethodName)) ∈ fx_TB := fx_m3 63 (by decide +kernel) rfl
theorem tb_544 : (Jvm.Cond.code ({ cls := "FearLocks$City", name := "isDoor", desc := "(I)Z" } : Jvm.MethodName) prog_2_method_3_code (2 : Nat) (Option.some Jvm.ClassFile.FieldType.boolean)) ∈ fx_TB := fx_m3 64 (by decide +kernel) rfl
theorem tb_545 : (Jvm.Cond.methodLinkNest "FearLocks$City" (42 : Nat) ({ cls := "FearLocks", name := "has", desc := "(II)Z" } : Jvm.MethodName) "FearLocks") ∈ fx_NW := fx_n3 65 (by decide +kernel) rfl
theorem tb_547 : (Jvm.Cond.instanceMethod ({ cls := "FearLocks$City", name := "dropDoor", desc := "(I)V" } : Jvm.MethodName)) ∈ fx_TB := fx_m3 67 (by decide +kernel) rfl
theorem tb_548 : (Jvm.Cond.selects "FearLocks$City" ({ cls := "FearLocks$City", name := "dropDoor", desc := "(I)V" } : Jvm.MethodName) ({ cls := "FearLocks$City", name := "dropDoor", desc := "(I)V" } : Jvm.MethodName)) ∈ fx_TB := fx_m3 68 (by decide +kernel) rfl
theorem tb_549 : (Jvm.Cond.code ({ cls := "FearLocks$City", name := "dropDoor", desc := "(I)V" } : Jvm.MethodName) prog_2_method_17_code (2 : Nat) (Option.none : Option Jvm.ClassFile.FieldType)) ∈ fx_TB := fx_m3 69 (by decide +kernel) rfl
theorem tb_558 : (Jvm.Cond.instanceMethod ({ cls := "FearLocks$City", name := "tellDoor", desc := "(III)V" } : Jvm.MethodName)) ∈ fx_TB := fx_m3 78 (by decide +kernel) rfl
theorem tb_559 : (Jvm.Cond.selects "FearLocks$City" ({ cls := "FearLocks$City", name := "tellDoor", desc := "(III)V" } : Jvm.MethodName) ({ cls := "FearLocks$City", name := "tellDoor", desc := "(III)V" } : Jvm.MethodName)) ∈ fx_TB := fx_m3 79 (by decide +kernel) rfl
theorem tb_560 : (Jvm.Cond.code ({ cls := "FearLocks$City", name := "tellDoor", desc := "(III)V" } : Jvm.MethodName) prog_2_method_16_code (4 : Nat) (Option.none : Option Jvm.ClassFile.FieldType)) ∈ fx_TB := fx_m3 80 (by decide +kernel) rfl
theorem tb_570 : (Jvm.Cond.instanceMethod ({ cls := "FearLocks$City", name := "isPerson", desc := "(I)Z" } : Jvm.MethodName)) ∈ fx_TB := fx_m3 90 (by decide +kernel) rfl
theorem tb_571 : (Jvm.Cond.selects "FearLocks$City" ({ cls := "FearLocks$City", name := "isPerson", desc := "(I)Z" } : Jvm.MethodName) ({ cls := "FearLocks$City", name := "isPerson", desc := "(I)Z" } : Jvm.MethodName)) ∈ fx_TB := fx_m3 91 (by decide +kernel) rfl
theorem tb_572 : (Jvm.Cond.code ({ cls := "FearLocks$City", name := "isPerson", desc := "(I)Z" } : Jvm.MethodName) prog_2_method_2_code (2 : Nat) (Option.some Jvm.ClassFile.FieldType.boolean)) ∈ fx_TB := fx_m3 92 (by decide +kernel) rfl
theorem tb_574 : (Jvm.Cond.instanceMethod ({ cls := "FearLocks$City", name := "acquaint", desc := "(IIZ)V" } : Jvm.MethodName)) ∈ fx_TB := fx_m3 94 (by decide +kernel) rfl
theorem tb_575 : (Jvm.Cond.selects "FearLocks$City" ({ cls := "FearLocks$City", name := "acquaint", desc := "(IIZ)V" } : Jvm.MethodName) ({ cls := "FearLocks$City", name := "acquaint", desc := "(IIZ)V" } : Jvm.MethodName)) ∈ fx_TB := fx_m3 95 (by decide +kernel) rfl
theorem tb_576 : (Jvm.Cond.code ({ cls := "FearLocks$City", name := "acquaint", desc := "(IIZ)V" } : Jvm.MethodName) prog_2_method_14_code (4 : Nat) (Option.none : Option Jvm.ClassFile.FieldType)) ∈ fx_TB := fx_m3 96 (by decide +kernel) rfl
theorem tb_577 : (Jvm.Cond.methodLink "FearLocksLaw" (23 : Nat) ({ cls := "FearLocks", name := "dreads", desc := "(II)I" } : Jvm.MethodName)) ∈ fx_TB := fx_m3 97 (by decide +kernel) rfl
theorem tb_578 : (Jvm.Cond.instanceMethod ({ cls := "FearLocks", name := "dreads", desc := "(II)I" } : Jvm.MethodName)) ∈ fx_TB := fx_m3 98 (by decide +kernel) rfl
theorem tb_579 : (Jvm.Cond.selects "FearLocks" ({ cls := "FearLocks", name := "dreads", desc := "(II)I" } : Jvm.MethodName) ({ cls := "FearLocks", name := "dreads", desc := "(II)I" } : Jvm.MethodName)) ∈ fx_TB := fx_m3 99 (by decide +kernel) rfl
theorem tb_580 : (Jvm.Cond.code ({ cls := "FearLocks", name := "dreads", desc := "(II)I" } : Jvm.MethodName) prog_1_method_4_code (4 : Nat) (Option.some Jvm.ClassFile.FieldType.int)) ∈ fx_TB := fx_m3 100 (by decide +kernel) rfl
theorem tb_581 : (Jvm.Cond.methodLink "FearLocks" (98 : Nat) ({ cls := "FearLocks$City", name := "copyFrom", desc := "(LFearLocks$City;)V" } : Jvm.MethodName)) ∈ fx_TB := fx_m3 101 (by decide +kernel) rfl
theorem tb_582 : (Jvm.Cond.instanceMethod ({ cls := "FearLocks$City", name := "copyFrom", desc := "(LFearLocks$City;)V" } : Jvm.MethodName)) ∈ fx_TB := fx_m3 102 (by decide +kernel) rfl
theorem tb_583 : (Jvm.Cond.selects "FearLocks$City" ({ cls := "FearLocks$City", name := "copyFrom", desc := "(LFearLocks$City;)V" } : Jvm.MethodName) ({ cls := "FearLocks$City", name := "copyFrom", desc := "(LFearLocks$City;)V" } : Jvm.MethodName)) ∈ fx_TB := fx_m3 103 (by decide +kernel) rfl
theorem tb_584 : (Jvm.Cond.code ({ cls := "FearLocks$City", name := "copyFrom", desc := "(LFearLocks$City;)V" } : Jvm.MethodName) prog_2_method_24_code (3 : Nat) (Option.none : Option Jvm.ClassFile.FieldType)) ∈ fx_TB := fx_m3 104 (by decide +kernel) rfl
theorem tb_585 : (Jvm.Cond.methodLink "FearLocks$City" (86 : Nat) ({ cls := "FearLocks$City", name := "copyDreads", desc := "(LFearLocks$City;)V" } : Jvm.MethodName)) ∈ fx_TB := fx_m3 105 (by decide +kernel) rfl
theorem tb_586 : (Jvm.Cond.instanceMethod ({ cls := "FearLocks$City", name := "copyDreads", desc := "(LFearLocks$City;)V" } : Jvm.MethodName)) ∈ fx_TB := fx_m3 106 (by decide +kernel) rfl
theorem tb_587 : (Jvm.Cond.selects "FearLocks$City" ({ cls := "FearLocks$City", name := "copyDreads", desc := "(LFearLocks$City;)V" } : Jvm.MethodName) ({ cls := "FearLocks$City", name := "copyDreads", desc := "(LFearLocks$City;)V" } : Jvm.MethodName)) ∈ fx_TB := fx_m3 107 (by decide +kernel) rfl
theorem tb_588 : (Jvm.Cond.code ({ cls := "FearLocks$City", name := "copyDreads", desc := "(LFearLocks$City;)V" } : Jvm.MethodName) prog_2_method_25_code (4 : Nat) (Option.none : Option Jvm.ClassFile.FieldType)) ∈ fx_TB := fx_m3 108 (by decide +kernel) rfl
theorem tb_589 : (Jvm.Cond.classLink "FearLocks" (102 : Nat) "FearLocks$DreadsReader") ∈ fx_TB := fx_m3 109 (by decide +kernel) rfl
theorem tb_590 : (Jvm.Cond.methodLink "FearLocks" (104 : Nat) ({ cls := "FearLocks$DreadsReader", name := "<init>", desc := "(LFearLocks$Tape;LFearLocks$City;I)V" } : Jvm.MethodName)) ∈ fx_TB := fx_m3 110 (by decide +kernel) rfl
theorem tb_602 : (Jvm.Cond.methodLink "FearLocks" (107 : Nat) ({ cls := "FearLocks$DreadsReader", name := "readLines", desc := "(I)I" } : Jvm.MethodName)) ∈ fx_TB := fx_m3 122 (by decide +kernel) rfl
theorem tb_605 : (Jvm.Cond.methodLink "FearLocksLaw" (28 : Nat) ({ cls := "FearLocks", name := "orders", desc := "(I)I" } : Jvm.MethodName)) ∈ fx_TB := fx_m3 125 (by decide +kernel) rfl
theorem tb_606 : (Jvm.Cond.instanceMethod ({ cls := "FearLocks", name := "orders", desc := "(I)I" } : Jvm.MethodName)) ∈ fx_TB := fx_m3 126 (by decide +kernel) rfl
theorem tb_607 : (Jvm.Cond.selects "FearLocks" ({ cls := "FearLocks", name := "orders", desc := "(I)I" } : Jvm.MethodName) ({ cls := "FearLocks", name := "orders", desc := "(I)I" } : Jvm.MethodName)) ∈ fx_TB := fx_m3 127 (by decide +kernel) rfl
theorem tb_608 : (Jvm.Cond.code ({ cls := "FearLocks", name := "orders", desc := "(I)I" } : Jvm.MethodName) prog_1_method_5_code (3 : Nat) (Option.some Jvm.ClassFile.FieldType.int)) ∈ fx_TB := fx_m3 128 (by decide +kernel) rfl
theorem tb_609 : (Jvm.Cond.classLink "FearLocks" (108 : Nat) "FearLocks$OrdersReader") ∈ fx_TB := fx_m3 129 (by decide +kernel) rfl
theorem tb_610 : (Jvm.Cond.methodLink "FearLocks" (110 : Nat) ({ cls := "FearLocks$OrdersReader", name := "<init>", desc := "(LFearLocks$Tape;LFearLocks$City;)V" } : Jvm.MethodName)) ∈ fx_TB := fx_m3 130 (by decide +kernel) rfl
theorem tb_619 : (Jvm.Cond.methodLink "FearLocks" (113 : Nat) ({ cls := "FearLocks$OrdersReader", name := "readLines", desc := "(I)I" } : Jvm.MethodName)) ∈ fx_TB := fx_m3 139 (by decide +kernel) rfl
theorem tb_622 : (Jvm.Cond.methodLink "FearLocksLaw" (32 : Nat) ({ cls := "FearLocks", name := "nights", desc := "(I)I" } : Jvm.MethodName)) ∈ fx_TB := fx_m3 142 (by decide +kernel) rfl
theorem tb_623 : (Jvm.Cond.instanceMethod ({ cls := "FearLocks", name := "nights", desc := "(I)I" } : Jvm.MethodName)) ∈ fx_TB := fx_m3 143 (by decide +kernel) rfl
theorem tb_624 : (Jvm.Cond.selects "FearLocks" ({ cls := "FearLocks", name := "nights", desc := "(I)I" } : Jvm.MethodName) ({ cls := "FearLocks", name := "nights", desc := "(I)I" } : Jvm.MethodName)) ∈ fx_TB := fx_m3 144 (by decide +kernel) rfl
theorem tb_625 : (Jvm.Cond.code ({ cls := "FearLocks", name := "nights", desc := "(I)I" } : Jvm.MethodName) prog_1_method_6_code (2 : Nat) (Option.some Jvm.ClassFile.FieldType.int)) ∈ fx_TB := fx_m3 145 (by decide +kernel) rfl
theorem tb_626 : (Jvm.Cond.methodLink "FearLocks" (114 : Nat) ({ cls := "FearLocks$Nightfall", name := "pass", desc := "(LFearLocks$City;LFearLocks$Law;I)V" } : Jvm.MethodName)) ∈ fx_TB := fx_m3 146 (by decide +kernel) rfl
theorem tb_627 : (Jvm.Cond.instanceMethod ({ cls := "FearLocks$Nightfall", name := "pass", desc := "(LFearLocks$City;LFearLocks$Law;I)V" } : Jvm.MethodName)) ∈ fx_TB := fx_m3 147 (by decide +kernel) rfl
theorem tb_628 : (Jvm.Cond.selects "FearLocks$Nightfall" ({ cls := "FearLocks$Nightfall", name := "pass", desc := "(LFearLocks$City;LFearLocks$Law;I)V" } : Jvm.MethodName) ({ cls := "FearLocks$Nightfall", name := "pass", desc := "(LFearLocks$City;LFearLocks$Law;I)V" } : Jvm.MethodName)) ∈ fx_TB := fx_m3 148 (by decide +kernel) rfl
theorem tb_629 : (Jvm.Cond.code ({ cls := "FearLocks$Nightfall", name := "pass", desc := "(LFearLocks$City;LFearLocks$Law;I)V" } : Jvm.MethodName) prog_9_method_2_code (6 : Nat) (Option.none : Option Jvm.ClassFile.FieldType)) ∈ fx_TB := fx_m3 149 (by decide +kernel) rfl
theorem tb_630 : (Jvm.Cond.methodLink "FearLocks$Nightfall" (28 : Nat) ({ cls := "FearLocks$City", name := "isPerson", desc := "(I)Z" } : Jvm.MethodName)) ∈ fx_TB := fx_m3 150 (by decide +kernel) rfl
theorem tb_631 : (Jvm.Cond.methodLink "FearLocks$Nightfall" (32 : Nat) ({ cls := "FearLocks$Nightfall", name := "goOut", desc := "(LFearLocks$City;LFearLocks$Law;I)V" } : Jvm.MethodName)) ∈ fx_TB := fx_m3 151 (by decide +kernel) rfl
theorem tb_633 : (Jvm.Cond.instanceMethod ({ cls := "FearLocks$Nightfall", name := "goOut", desc := "(LFearLocks$City;LFearLocks$Law;I)V" } : Jvm.MethodName)) ∈ fx_TB := fx_m3 153 (by decide +kernel) rfl
theorem tb_634 : (Jvm.Cond.code ({ cls := "FearLocks$Nightfall", name := "goOut", desc := "(LFearLocks$City;LFearLocks$Law;I)V" } : Jvm.MethodName) prog_9_method_3_code (5 : Nat) (Option.none : Option Jvm.ClassFile.FieldType)) ∈ fx_TB := fx_m3 154 (by decide +kernel) rfl
theorem tb_635 : (Jvm.Cond.methodLink "FearLocks$Nightfall" (40 : Nat) ({ cls := "FearLocks$City", name := "greatestDread", desc := "(I)I" } : Jvm.MethodName)) ∈ fx_TB := fx_m3 155 (by decide +kernel) rfl
theorem tb_636 : (Jvm.Cond.instanceMethod ({ cls := "FearLocks$City", name := "greatestDread", desc := "(I)I" } : Jvm.MethodName)) ∈ fx_TB := fx_m3 156 (by decide +kernel) rfl
theorem tb_637 : (Jvm.Cond.selects "FearLocks$City" ({ cls := "FearLocks$City", name := "greatestDread", desc := "(I)I" } : Jvm.MethodName) ({ cls := "FearLocks$City", name := "greatestDread", desc := "(I)I" } : Jvm.MethodName)) ∈ fx_TB := fx_m3 157 (by decide +kernel) rfl
theorem tb_638 : (Jvm.Cond.code ({ cls := "FearLocks$City", name := "greatestDread", desc := "(I)I" } : Jvm.MethodName) prog_2_method_6_code (4 : Nat) (Option.some Jvm.ClassFile.FieldType.int)) ∈ fx_TB := fx_m3 158 (by decide +kernel) rfl
theorem tb_639 : (Jvm.Cond.methodLink "FearLocks$City" (50 : Nat) ({ cls := "FearLocks$City", name := "dreadOf", desc := "(II)I" } : Jvm.MethodName)) ∈ fx_TB := fx_m3 159 (by decide +kernel) rfl
theorem tb_640 : (Jvm.Cond.methodLink "FearLocks$City" (54 : Nat) ({ cls := "java/lang/Math", name := "max", desc := "(II)I" } : Jvm.MethodName)) ∈ fx_TB := fx_m3 160 (by decide +kernel) rfl
theorem tb_641 : (Jvm.Cond.methodLink "FearLocks$Nightfall" (44 : Nat) ({ cls := "FearLocks$City", name := "knownTo", desc := "(I)I" } : Jvm.MethodName)) ∈ fx_TB := fx_m3 161 (by decide +kernel) rfl
theorem tb_642 : (Jvm.Cond.instanceMethod ({ cls := "FearLocks$City", name := "knownTo", desc := "(I)I" } : Jvm.MethodName)) ∈ fx_TB := fx_m3 162 (by decide +kernel) rfl
theorem tb_643 : (Jvm.Cond.selects "FearLocks$City" ({ cls := "FearLocks$City", name := "knownTo", desc := "(I)I" } : Jvm.MethodName) ({ cls := "FearLocks$City", name := "knownTo", desc := "(I)I" } : Jvm.MethodName)) ∈ fx_TB := fx_m3 163 (by decide +kernel) rfl
theorem tb_644 : (Jvm.Cond.code ({ cls := "FearLocks$City", name := "knownTo", desc := "(I)I" } : Jvm.MethodName) prog_2_method_13_code (2 : Nat) (Option.some Jvm.ClassFile.FieldType.int)) ∈ fx_TB := fx_m3 164 (by decide +kernel) rfl
theorem tb_645 : (Jvm.Cond.methodLink "FearLocks$Nightfall" (47 : Nat) ({ cls := "java/lang/Integer", name := "bitCount", desc := "(I)I" } : Jvm.MethodName)) ∈ fx_TB := fx_m3 165 (by decide +kernel) rfl
theorem tb_646 : (Jvm.Cond.static ({ cls := "java/lang/Integer", name := "bitCount", desc := "(I)I" } : Jvm.MethodName)) ∈ fx_TB := fx_m3 166 (by decide +kernel) rfl
theorem tb_647 : (Jvm.Cond.code ({ cls := "java/lang/Integer", name := "bitCount", desc := "(I)I" } : Jvm.MethodName) prog_16_method_49_code (1 : Nat) (Option.some Jvm.ClassFile.FieldType.int)) ∈ fx_TB := fx_m3 167 (by decide +kernel) rfl
theorem tb_648 : (Jvm.Cond.constant "java/lang/Integer" (265 : Nat) (1431655765 : Int32)) ∈ fx_TB := fx_m3 168 (by decide +kernel) rfl
theorem tb_649 : (Jvm.Cond.constant "java/lang/Integer" (266 : Nat) (858993459 : Int32)) ∈ fx_TB := fx_m3 169 (by decide +kernel) rfl
theorem tb_650 : (Jvm.Cond.constant "java/lang/Integer" (267 : Nat) (252645135 : Int32)) ∈ fx_TB := fx_m3 170 (by decide +kernel) rfl
theorem tb_651 : (Jvm.Cond.methodLink "FearLocks$Nightfall" (52 : Nat) ({ cls := "FearLocks$Law", name := "meanPerson", desc := "(III)V" } : Jvm.MethodName)) ∈ fx_TB := fx_m3 171 (by decide +kernel) rfl
theorem tb_652 : (Jvm.Cond.instanceMethod ({ cls := "FearLocks$Law", name := "meanPerson", desc := "(III)V" } : Jvm.MethodName)) ∈ fx_TB := fx_m3 172 (by decide +kernel) rfl
theorem tb_653 : (Jvm.Cond.selects "FearLocks$Law" ({ cls := "FearLocks$Law", name := "meanPerson", desc := "(III)V" } : Jvm.MethodName) ({ cls := "FearLocks$Law", name := "meanPerson", desc := "(III)V" } : Jvm.MethodName)) ∈ fx_TB := fx_m3 173 (by decide +kernel) rfl
theorem tb_654 : (Jvm.Cond.code ({ cls := "FearLocks$Law", name := "meanPerson", desc := "(III)V" } : Jvm.MethodName) prog_6_method_8_code (4 : Nat) (Option.none : Option Jvm.ClassFile.FieldType)) ∈ fx_TB := fx_m3 174 (by decide +kernel) rfl
theorem tb_655 : (Jvm.Cond.methodLink "FearLocks$Nightfall" (58 : Nat) ({ cls := "FearLocks$Law", name := "meanOther", desc := "(III)V" } : Jvm.MethodName)) ∈ fx_TB := fx_m3 175 (by decide +kernel) rfl
theorem tb_656 : (Jvm.Cond.instanceMethod ({ cls := "FearLocks$Law", name := "meanOther", desc := "(III)V" } : Jvm.MethodName)) ∈ fx_TB := fx_m3 176 (by decide +kernel) rfl
theorem tb_657 : (Jvm.Cond.selects "FearLocks$Law" ({ cls := "FearLocks$Law", name := "meanOther", desc := "(III)V" } : Jvm.MethodName) ({ cls := "FearLocks$Law", name := "meanOther", desc := "(III)V" } : Jvm.MethodName)) ∈ fx_TB := fx_m3 177 (by decide +kernel) rfl
theorem tb_658 : (Jvm.Cond.code ({ cls := "FearLocks$Law", name := "meanOther", desc := "(III)V" } : Jvm.MethodName) prog_6_method_9_code (4 : Nat) (Option.none : Option Jvm.ClassFile.FieldType)) ∈ fx_TB := fx_m3 178 (by decide +kernel) rfl
theorem tb_659 : (Jvm.Cond.methodLink "FearLocks$Nightfall" (61 : Nat) ({ cls := "FearLocks$Law", name := "meanDoor", desc := "(II)V" } : Jvm.MethodName)) ∈ fx_TB := fx_m3 179 (by decide +kernel) rfl
theorem tb_660 : (Jvm.Cond.instanceMethod ({ cls := "FearLocks$Law", name := "meanDoor", desc := "(II)V" } : Jvm.MethodName)) ∈ fx_TB := fx_m3 180 (by decide +kernel) rfl
theorem tb_661 : (Jvm.Cond.selects "FearLocks$Law" ({ cls := "FearLocks$Law", name := "meanDoor", desc := "(II)V" } : Jvm.MethodName) ({ cls := "FearLocks$Law", name := "meanDoor", desc := "(II)V" } : Jvm.MethodName)) ∈ fx_TB := fx_m3 181 (by decide +kernel) rfl
theorem tb_662 : (Jvm.Cond.code ({ cls := "FearLocks$Law", name := "meanDoor", desc := "(II)V" } : Jvm.MethodName) prog_6_method_10_code (3 : Nat) (Option.none : Option Jvm.ClassFile.FieldType)) ∈ fx_TB := fx_m3 182 (by decide +kernel) rfl
theorem tb_663 : (Jvm.Cond.methodLink "FearLocks$Nightfall" (65 : Nat) ({ cls := "FearLocks$City", name := "draw", desc := "()I" } : Jvm.MethodName)) ∈ fx_TB := fx_m3 183 (by decide +kernel) rfl
theorem tb_664 : (Jvm.Cond.instanceMethod ({ cls := "FearLocks$City", name := "draw", desc := "()I" } : Jvm.MethodName)) ∈ fx_TB := fx_m3 184 (by decide +kernel) rfl
theorem tb_665 : (Jvm.Cond.selects "FearLocks$City" ({ cls := "FearLocks$City", name := "draw", desc := "()I" } : Jvm.MethodName) ({ cls := "FearLocks$City", name := "draw", desc := "()I" } : Jvm.MethodName)) ∈ fx_TB := fx_m3 185 (by decide +kernel) rfl
theorem tb_666 : (Jvm.Cond.code ({ cls := "FearLocks$City", name := "draw", desc := "()I" } : Jvm.MethodName) prog_2_method_23_code (1 : Nat) (Option.some Jvm.ClassFile.FieldType.int)) ∈ fx_TB := fx_m3 186 (by decide +kernel) rfl
theorem tb_667 : (Jvm.Cond.constant "FearLocks$City" (85 : Nat) (65536 : Int32)) ∈ fx_TB := fx_m3 187 (by decide +kernel) rfl
theorem tb_668 : (Jvm.Cond.methodLink "FearLocks$Nightfall" (69 : Nat) ({ cls := "FearLocks$Law", name := "meanTime", desc := "(II)V" } : Jvm.MethodName)) ∈ fx_TB := fx_m3 188 (by decide +kernel) rfl
theorem tb_669 : (Jvm.Cond.instanceMethod ({ cls := "FearLocks$Law", name := "meanTime", desc := "(II)V" } : Jvm.MethodName)) ∈ fx_TB := fx_m3 189 (by decide +kernel) rfl
theorem tb_670 : (Jvm.Cond.selects "FearLocks$Law" ({ cls := "FearLocks$Law", name := "meanTime", desc := "(II)V" } : Jvm.MethodName) ({ cls := "FearLocks$Law", name := "meanTime", desc := "(II)V" } : Jvm.MethodName)) ∈ fx_TB := fx_m3 190 (by decide +kernel) rfl
theorem tb_671 : (Jvm.Cond.code ({ cls := "FearLocks$Law", name := "meanTime", desc := "(II)V" } : Jvm.MethodName) prog_6_method_11_code (3 : Nat) (Option.none : Option Jvm.ClassFile.FieldType)) ∈ fx_TB := fx_m3 191 (by decide +kernel) rfl
theorem tb_672 : (Jvm.Cond.methodLink "FearLocks$Nightfall" (72 : Nat) ({ cls := "FearLocks$Law", name := "anyHolds", desc := "(I)Z" } : Jvm.MethodName)) ∈ fx_TB := fx_m3 192 (by decide +kernel) rfl
theorem tb_673 : (Jvm.Cond.instanceMethod ({ cls := "FearLocks$Law", name := "anyHolds", desc := "(I)Z" } : Jvm.MethodName)) ∈ fx_TB := fx_m3 193 (by decide +kernel) rfl
theorem tb_674 : (Jvm.Cond.selects "FearLocks$Law" ({ cls := "FearLocks$Law", name := "anyHolds", desc := "(I)Z" } : Jvm.MethodName) ({ cls := "FearLocks$Law", name := "anyHolds", desc := "(I)Z" } : Jvm.MethodName)) ∈ fx_TB := fx_m3 194 (by decide +kernel) rfl
theorem tb_675 : (Jvm.Cond.code ({ cls := "FearLocks$Law", name := "anyHolds", desc := "(I)Z" } : Jvm.MethodName) prog_6_method_12_code (3 : Nat) (Option.some Jvm.ClassFile.FieldType.boolean)) ∈ fx_TB := fx_m3 195 (by decide +kernel) rfl
theorem tb_676 : (Jvm.Cond.methodLink "FearLocks$Law" (57 : Nat) ({ cls := "FearLocks$Law", name := "reckon", desc := "(I)I" } : Jvm.MethodName)) ∈ fx_TB := fx_m3 196 (by decide +kernel) rfl
theorem tb_678 : (Jvm.Cond.instanceMethod ({ cls := "FearLocks$Law", name := "reckon", desc := "(I)I" } : Jvm.MethodName)) ∈ fx_TB := fx_m3 198 (by decide +kernel) rfl
theorem tb_679 : (Jvm.Cond.code ({ cls := "FearLocks$Law", name := "reckon", desc := "(I)I" } : Jvm.MethodName) prog_6_method_14_code (6 : Nat) (Option.some Jvm.ClassFile.FieldType.int)) ∈ fx_TB := fx_m3 199 (by decide +kernel) rfl
theorem tb_680 : (Jvm.Cond.methodLink "FearLocks$Law" (65 : Nat) ({ cls := "java/lang/Math", name := "max", desc := "(II)I" } : Jvm.MethodName)) ∈ fx_TB := fx_m3 200 (by decide +kernel) rfl
theorem tb_681 : (Jvm.Cond.methodLink "FearLocks$Law" (68 : Nat) ({ cls := "FearLocks$Law", name := "push", desc := "(I)V" } : Jvm.MethodName)) ∈ fx_TB := fx_m3 201 (by decide +kernel) rfl
theorem tb_683 : (Jvm.Cond.instanceMethod ({ cls := "FearLocks$Law", name := "push", desc := "(I)V" } : Jvm.MethodName)) ∈ fx_TB := fx_m3 203 (by decide +kernel) rfl
theorem tb_684 : (Jvm.Cond.code ({ cls := "FearLocks$Law", name := "push", desc := "(I)V" } : Jvm.MethodName) prog_6_method_17_code (2 : Nat) (Option.none : Option Jvm.ClassFile.FieldType)) ∈ fx_TB := fx_m3 204 (by decide +kernel) rfl
theorem tb_685 : (Jvm.Cond.methodLink "FearLocks$Law" (72 : Nat) ({ cls := "FearLocks$Law", name := "meaningOf", desc := "(I)I" } : Jvm.MethodName)) ∈ fx_TB := fx_m3 205 (by decide +kernel) rfl
theorem tb_687 : (Jvm.Cond.instanceMethod ({ cls := "FearLocks$Law", name := "meaningOf", desc := "(I)I" } : Jvm.MethodName)) ∈ fx_TB := fx_m3 207 (by decide +kernel) rfl
theorem tb_688 : (Jvm.Cond.code ({ cls := "FearLocks$Law", name := "meaningOf", desc := "(I)I" } : Jvm.MethodName) prog_6_method_16_code (2 : Nat) (Option.some Jvm.ClassFile.FieldType.int)) ∈ fx_TB := fx_m3 208 (by decide +kernel) rfl
theorem tb_689 : (Jvm.Cond.methodLink "FearLocks$Law" (75 : Nat) ({ cls := "FearLocks$Law", name := "pop", desc := "()I" } : Jvm.MethodName)) ∈ fx_TB := fx_m3 209 (by decide +kernel) rfl
theorem tb_691 : (Jvm.Cond.instanceMethod ({ cls := "FearLocks$Law", name := "pop", desc := "()I" } : Jvm.MethodName)) ∈ fx_TB := fx_m3 211 (by decide +kernel) rfl
theorem tb_692 : (Jvm.Cond.code ({ cls := "FearLocks$Law", name := "pop", desc := "()I" } : Jvm.MethodName) prog_6_method_18_code (1 : Nat) (Option.some Jvm.ClassFile.FieldType.int)) ∈ fx_TB := fx_m3 212 (by decide +kernel) rfl
theorem tb_693 : (Jvm.Cond.methodLink "FearLocks$Law" (78 : Nat) ({ cls := "FearLocks$Law", name := "joined", desc := "(III)I" } : Jvm.MethodName)) ∈ fx_TB := fx_m3 213 (by decide +kernel) rfl
theorem tb_694 : (Jvm.Cond.static ({ cls := "FearLocks$Law", name := "joined", desc := "(III)I" } : Jvm.MethodName)) ∈ fx_TB := fx_m3 214 (by decide +kernel) rfl
theorem tb_695 : (Jvm.Cond.code ({ cls := "FearLocks$Law", name := "joined", desc := "(III)I" } : Jvm.MethodName) prog_6_method_15_code (3 : Nat) (Option.some Jvm.ClassFile.FieldType.int)) ∈ fx_TB := fx_m3 215 (by decide +kernel) rfl
theorem tb_696 : (Jvm.Cond.methodLink "FearLocks$Nightfall" (75 : Nat) ({ cls := "FearLocks$Nightfall", name := "doorTried", desc := "(LFearLocks$City;LFearLocks$Law;I)I" } : Jvm.MethodName)) ∈ fx_TB := fx_m3 216 (by decide +kernel) rfl
theorem tb_697 : (Jvm.Cond.static ({ cls := "FearLocks$Nightfall", name := "doorTried", desc := "(LFearLocks$City;LFearLocks$Law;I)I" } : Jvm.MethodName)) ∈ fx_TB := fx_m3 217 (by decide +kernel) rfl
theorem tb_698 : (Jvm.Cond.code ({ cls := "FearLocks$Nightfall", name := "doorTried", desc := "(LFearLocks$City;LFearLocks$Law;I)I" } : Jvm.MethodName) prog_9_method_4_code (7 : Nat) (Option.some Jvm.ClassFile.FieldType.int)) ∈ fx_TB := fx_m3 218 (by decide +kernel) rfl
theorem tb_699 : (Jvm.Cond.methodLink "FearLocks$Nightfall" (83 : Nat) ({ cls := "FearLocks$City", name := "isDoor", desc := "(I)Z" } : Jvm.MethodName)) ∈ fx_TB := fx_m3 219 (by decide +kernel) rfl
theorem tb_700 : (Jvm.Cond.methodLink "FearLocks$Nightfall" (86 : Nat) ({ cls := "FearLocks$Nightfall", name := "meanDoorFor", desc := "(LFearLocks$City;LFearLocks$Law;II)V" } : Jvm.MethodName)) ∈ fx_TB := fx_m3 220 (by decide +kernel) rfl
theorem tb_701 : (Jvm.Cond.static ({ cls := "FearLocks$Nightfall", name := "meanDoorFor", desc := "(LFearLocks$City;LFearLocks$Law;II)V" } : Jvm.MethodName)) ∈ fx_TB := fx_m3 221 (by decide +kernel) rfl
theorem tb_702 : (Jvm.Cond.code ({ cls := "FearLocks$Nightfall", name := "meanDoorFor", desc := "(LFearLocks$City;LFearLocks$Law;II)V" } : Jvm.MethodName) prog_9_method_5_code (5 : Nat) (Option.none : Option Jvm.ClassFile.FieldType)) ∈ fx_TB := fx_m3 222 (by decide +kernel) rfl
theorem tb_703 : (Jvm.Cond.methodLink "FearLocks$Nightfall" (97 : Nat) ({ cls := "FearLocks$City", name := "dreadOf", desc := "(II)I" } : Jvm.MethodName)) ∈ fx_TB := fx_m3 223 (by decide +kernel) rfl
theorem tb_704 : (Jvm.Cond.methodLink "FearLocks$Nightfall" (89 : Nat) ({ cls := "FearLocks$Law", name := "worth", desc := "(II)I" } : Jvm.MethodName)) ∈ fx_TB := fx_m3 224 (by decide +kernel) rfl
theorem tb_705 : (Jvm.Cond.instanceMethod ({ cls := "FearLocks$Law", name := "worth", desc := "(II)I" } : Jvm.MethodName)) ∈ fx_TB := fx_m3 225 (by decide +kernel) rfl
theorem tb_706 : (Jvm.Cond.selects "FearLocks$Law" ({ cls := "FearLocks$Law", name := "worth", desc := "(II)I" } : Jvm.MethodName) ({ cls := "FearLocks$Law", name := "worth", desc := "(II)I" } : Jvm.MethodName)) ∈ fx_TB := fx_m3 226 (by decide +kernel) rfl
theorem tb_707 : (Jvm.Cond.code ({ cls := "FearLocks$Law", name := "worth", desc := "(II)I" } : Jvm.MethodName) prog_6_method_13_code (4 : Nat) (Option.some Jvm.ClassFile.FieldType.int)) ∈ fx_TB := fx_m3 227 (by decide +kernel) rfl
theorem tb_708 : (Jvm.Cond.methodLinkNest "FearLocks$Law" (61 : Nat) ({ cls := "FearLocks", name := "bounded", desc := "(III)I" } : Jvm.MethodName) "FearLocks") ∈ fx_NW := fx_n3 228 (by decide +kernel) rfl
theorem tb_709 : (Jvm.Cond.methodLink "FearLocks$Nightfall" (79 : Nat) ({ cls := "FearLocks$Nightfall", name := "tryDoor", desc := "(LFearLocks$City;LFearLocks$Law;II)V" } : Jvm.MethodName)) ∈ fx_TB := fx_m3 229 (by decide +kernel) rfl
theorem tb_711 : (Jvm.Cond.instanceMethod ({ cls := "FearLocks$Nightfall", name := "tryDoor", desc := "(LFearLocks$City;LFearLocks$Law;II)V" } : Jvm.MethodName)) ∈ fx_TB := fx_m3 231 (by decide +kernel) rfl
theorem tb_712 : (Jvm.Cond.code ({ cls := "FearLocks$Nightfall", name := "tryDoor", desc := "(LFearLocks$City;LFearLocks$Law;II)V" } : Jvm.MethodName) prog_9_method_6_code (8 : Nat) (Option.none : Option Jvm.ClassFile.FieldType)) ∈ fx_TB := fx_m3 232 (by decide +kernel) rfl
theorem tb_713 : (Jvm.Cond.methodLink "FearLocks$Nightfall" (106 : Nat) ({ cls := "FearLocks$City", name := "opens", desc := "(II)Z" } : Jvm.MethodName)) ∈ fx_TB := fx_m3 233 (by decide +kernel) rfl
theorem tb_714 : (Jvm.Cond.instanceMethod ({ cls := "FearLocks$City", name := "opens", desc := "(II)Z" } : Jvm.MethodName)) ∈ fx_TB := fx_m3 234 (by decide +kernel) rfl
theorem tb_715 : (Jvm.Cond.selects "FearLocks$City" ({ cls := "FearLocks$City", name := "opens", desc := "(II)Z" } : Jvm.MethodName) ({ cls := "FearLocks$City", name := "opens", desc := "(II)Z" } : Jvm.MethodName)) ∈ fx_TB := fx_m3 235 (by decide +kernel) rfl
theorem tb_716 : (Jvm.Cond.code ({ cls := "FearLocks$City", name := "opens", desc := "(II)Z" } : Jvm.MethodName) prog_2_method_18_code (3 : Nat) (Option.some Jvm.ClassFile.FieldType.boolean)) ∈ fx_TB := fx_m3 236 (by decide +kernel) rfl
theorem tb_717 : (Jvm.Cond.methodLink "FearLocks$City" (70 : Nat) ({ cls := "FearLocks$City", name := "isPerson", desc := "(I)Z" } : Jvm.MethodName)) ∈ fx_TB := fx_m3 237 (by decide +kernel) rfl
theorem tb_718 : (Jvm.Cond.methodLink "FearLocks$City" (79 : Nat) ({ cls := "FearLocks$City", name := "isDoor", desc := "(I)Z" } : Jvm.MethodName)) ∈ fx_TB := fx_m3 238 (by decide +kernel) rfl
theorem tb_719 : (Jvm.Cond.methodLink "FearLocks$City" (63 : Nat) ({ cls := "FearLocks$City", name := "fearOf", desc := "(I)I" } : Jvm.MethodName)) ∈ fx_TB := fx_m3 239 (by decide +kernel) rfl
theorem tb_720 : (Jvm.Cond.instanceMethod ({ cls := "FearLocks$City", name := "fearOf", desc := "(I)I" } : Jvm.MethodName)) ∈ fx_TB := fx_m4 0 (by decide +kernel) rfl
theorem tb_721 : (Jvm.Cond.selects "FearLocks$City" ({ cls := "FearLocks$City", name := "fearOf", desc := "(I)I" } : Jvm.MethodName) ({ cls := "FearLocks$City", name := "fearOf", desc := "(I)I" } : Jvm.MethodName)) ∈ fx_TB := fx_m4 1 (by decide +kernel) rfl
theorem tb_722 : (Jvm.Cond.code ({ cls := "FearLocks$City", name := "fearOf", desc := "(I)I" } : Jvm.MethodName) prog_2_method_8_code (5 : Nat) (Option.some Jvm.ClassFile.FieldType.int)) ∈ fx_TB := fx_m4 2 (by decide +kernel) rfl
theorem tb_723 : (Jvm.Cond.methodLink "FearLocks$City" (59 : Nat) ({ cls := "FearLocks$City", name := "greatestDread", desc := "(I)I" } : Jvm.MethodName)) ∈ fx_TB := fx_m4 3 (by decide +kernel) rfl
theorem tb_724 : (Jvm.Cond.methodLink "FearLocks$Nightfall" (110 : Nat) ({ cls := "java/lang/Math", name := "min", desc := "(II)I" } : Jvm.MethodName)) ∈ fx_TB := fx_m4 4 (by decide +kernel) rfl
theorem tb_725 : (Jvm.Cond.methodLink "FearLocks$Nightfall" (115 : Nat) ({ cls := "FearLocks$City", name := "setDread", desc := "(III)V" } : Jvm.MethodName)) ∈ fx_TB := fx_m4 5 (by decide +kernel) rfl
theorem tb_726 : (Jvm.Cond.methodLink "FearLocks$Nightfall" (36 : Nat) ({ cls := "FearLocks$Nightfall", name := "spreadDread", desc := "(LFearLocks$City;LFearLocks$Law;)V" } : Jvm.MethodName)) ∈ fx_TB := fx_m4 6 (by decide +kernel) rfl
theorem tb_728 : (Jvm.Cond.instanceMethod ({ cls := "FearLocks$Nightfall", name := "spreadDread", desc := "(LFearLocks$City;LFearLocks$Law;)V" } : Jvm.MethodName)) ∈ fx_TB := fx_m4 8 (by decide +kernel) rfl
theorem tb_729 : (Jvm.Cond.code ({ cls := "FearLocks$Nightfall", name := "spreadDread", desc := "(LFearLocks$City;LFearLocks$Law;)V" } : Jvm.MethodName) prog_9_method_7_code (5 : Nat) (Option.none : Option Jvm.ClassFile.FieldType)) ∈ fx_TB := fx_m4 9 (by decide +kernel) rfl
theorem tb_730 : (Jvm.Cond.methodLink "FearLocks$Nightfall" (118 : Nat) ({ cls := "FearLocks$City", name := "copyFrom", desc := "(LFearLocks$City;)V" } : Jvm.MethodName)) ∈ fx_TB := fx_m4 10 (by decide +kernel) rfl
theorem tb_731 : (Jvm.Cond.methodLinkNest "FearLocks$Nightfall" (122 : Nat) ({ cls := "FearLocks", name := "has", desc := "(II)Z" } : Jvm.MethodName) "FearLocks") ∈ fx_NW := fx_n4 11 (by decide +kernel) rfl
theorem tb_732 : (Jvm.Cond.methodLink "FearLocks$Nightfall" (125 : Nat) ({ cls := "FearLocks$Nightfall", name := "catchDread", desc := "(LFearLocks$City;LFearLocks$Law;II)V" } : Jvm.MethodName)) ∈ fx_TB := fx_m4 12 (by decide +kernel) rfl
theorem tb_734 : (Jvm.Cond.instanceMethod ({ cls := "FearLocks$Nightfall", name := "catchDread", desc := "(LFearLocks$City;LFearLocks$Law;II)V" } : Jvm.MethodName)) ∈ fx_TB := fx_m4 14 (by decide +kernel) rfl
theorem tb_735 : (Jvm.Cond.code ({ cls := "FearLocks$Nightfall", name := "catchDread", desc := "(LFearLocks$City;LFearLocks$Law;II)V" } : Jvm.MethodName) prog_9_method_8_code (7 : Nat) (Option.none : Option Jvm.ClassFile.FieldType)) ∈ fx_TB := fx_m4 15 (by decide +kernel) rfl
theorem tb_736 : (Jvm.Cond.methodLink "FearLocks$Nightfall" (128 : Nat) ({ cls := "FearLocks$City", name := "fearOf", desc := "(I)I" } : Jvm.MethodName)) ∈ fx_TB := fx_m4 16 (by decide +kernel) rfl
theorem tb_737 : (Jvm.Cond.methodLink "FearLocksLaw" (36 : Nat) ({ cls := "FearLocks", name := "tried", desc := "(II)I" } : Jvm.MethodName)) ∈ fx_TB := fx_m4 17 (by decide +kernel) rfl
theorem tb_738 : (Jvm.Cond.instanceMethod ({ cls := "FearLocks", name := "tried", desc := "(II)I" } : Jvm.MethodName)) ∈ fx_TB := fx_m4 18 (by decide +kernel) rfl
theorem tb_739 : (Jvm.Cond.selects "FearLocks" ({ cls := "FearLocks", name := "tried", desc := "(II)I" } : Jvm.MethodName) ({ cls := "FearLocks", name := "tried", desc := "(II)I" } : Jvm.MethodName)) ∈ fx_TB := fx_m4 19 (by decide +kernel) rfl
theorem tb_740 : (Jvm.Cond.code ({ cls := "FearLocks", name := "tried", desc := "(II)I" } : Jvm.MethodName) prog_1_method_7_code (3 : Nat) (Option.some Jvm.ClassFile.FieldType.int)) ∈ fx_TB := fx_m4 20 (by decide +kernel) rfl
theorem tb_741 : (Jvm.Cond.methodLink "FearLocks" (121 : Nat) ({ cls := "FearLocks", name := "canBeTried", desc := "(I)Z" } : Jvm.MethodName)) ∈ fx_TB := fx_m4 21 (by decide +kernel) rfl
theorem tb_743 : (Jvm.Cond.instanceMethod ({ cls := "FearLocks", name := "canBeTried", desc := "(I)Z" } : Jvm.MethodName)) ∈ fx_TB := fx_m4 23 (by decide +kernel) rfl
theorem tb_744 : (Jvm.Cond.code ({ cls := "FearLocks", name := "canBeTried", desc := "(I)Z" } : Jvm.MethodName) prog_1_method_8_code (2 : Nat) (Option.some Jvm.ClassFile.FieldType.boolean)) ∈ fx_TB := fx_m4 24 (by decide +kernel) rfl
theorem tb_745 : (Jvm.Cond.methodLink "FearLocks" (137 : Nat) ({ cls := "FearLocks$City", name := "isPerson", desc := "(I)Z" } : Jvm.MethodName)) ∈ fx_TB := fx_m4 25 (by decide +kernel) rfl
theorem tb_746 : (Jvm.Cond.methodLink "FearLocks" (140 : Nat) ({ cls := "FearLocks$City", name := "isDoor", desc := "(I)Z" } : Jvm.MethodName)) ∈ fx_TB := fx_m4 26 (by decide +kernel) rfl
theorem tb_747 : (Jvm.Cond.methodLink "FearLocks" (128 : Nat) ({ cls := "FearLocks$City", name := "fearOf", desc := "(I)I" } : Jvm.MethodName)) ∈ fx_TB := fx_m4 27 (by decide +kernel) rfl
theorem tb_748 : (Jvm.Cond.methodLink "FearLocks" (131 : Nat) ({ cls := "FearLocks$City", name := "greatestDread", desc := "(I)I" } : Jvm.MethodName)) ∈ fx_TB := fx_m4 28 (by decide +kernel) rfl
theorem tb_749 : (Jvm.Cond.methodLink "FearLocks" (134 : Nat) ({ cls := "FearLocks$City", name := "openedOf", desc := "(I)I" } : Jvm.MethodName)) ∈ fx_TB := fx_m4 29 (by decide +kernel) rfl
theorem tb_750 : (Jvm.Cond.instanceMethod ({ cls := "FearLocks$City", name := "openedOf", desc := "(I)I" } : Jvm.MethodName)) ∈ fx_TB := fx_m4 30 (by decide +kernel) rfl
theorem tb_751 : (Jvm.Cond.selects "FearLocks$City" ({ cls := "FearLocks$City", name := "openedOf", desc := "(I)I" } : Jvm.MethodName) ({ cls := "FearLocks$City", name := "openedOf", desc := "(I)I" } : Jvm.MethodName)) ∈ fx_TB := fx_m4 31 (by decide +kernel) rfl
theorem tb_752 : (Jvm.Cond.code ({ cls := "FearLocks$City", name := "openedOf", desc := "(I)I" } : Jvm.MethodName) prog_2_method_21_code (2 : Nat) (Option.some Jvm.ClassFile.FieldType.int)) ∈ fx_TB := fx_m4 32 (by decide +kernel) rfl
theorem tb_753 : (Jvm.Cond.methodLink "FearLocksLaw" (40 : Nat) ({ cls := "FearLocks", name := "personIs", desc := "(II)I" } : Jvm.MethodName)) ∈ fx_TB := fx_m4 33 (by decide +kernel) rfl
theorem tb_754 : (Jvm.Cond.instanceMethod ({ cls := "FearLocks", name := "personIs", desc := "(II)I" } : Jvm.MethodName)) ∈ fx_TB := fx_m4 34 (by decide +kernel) rfl
theorem tb_755 : (Jvm.Cond.selects "FearLocks" ({ cls := "FearLocks", name := "personIs", desc := "(II)I" } : Jvm.MethodName) ({ cls := "FearLocks", name := "personIs", desc := "(II)I" } : Jvm.MethodName)) ∈ fx_TB := fx_m4 35 (by decide +kernel) rfl
theorem tb_756 : (Jvm.Cond.code ({ cls := "FearLocks", name := "personIs", desc := "(II)I" } : Jvm.MethodName) prog_1_method_9_code (3 : Nat) (Option.some Jvm.ClassFile.FieldType.int)) ∈ fx_TB := fx_m4 36 (by decide +kernel) rfl
theorem tb_757 : (Jvm.Cond.methodLink "FearLocks" (143 : Nat) ({ cls := "FearLocks$City", name := "dreadOf", desc := "(II)I" } : Jvm.MethodName)) ∈ fx_TB := fx_m4 37 (by decide +kernel) rfl
theorem tb_758 : (Jvm.Cond.methodLink "FearLocks" (147 : Nat) ({ cls := "FearLocks$City", name := "knownTo", desc := "(I)I" } : Jvm.MethodName)) ∈ fx_TB := fx_m4 38 (by decide +kernel) rfl
theorem tb_759 : (Jvm.Cond.methodLink "FearLocks" (150 : Nat) ({ cls := "FearLocks$City", name := "doorsOpenTo", desc := "(I)I" } : Jvm.MethodName)) ∈ fx_TB := fx_m4 39 (by decide +kernel) rfl
theorem tb_760 : (Jvm.Cond.instanceMethod ({ cls := "FearLocks$City", name := "doorsOpenTo", desc := "(I)I" } : Jvm.MethodName)) ∈ fx_TB := fx_m4 40 (by decide +kernel) rfl
theorem tb_761 : (Jvm.Cond.selects "FearLocks$City" ({ cls := "FearLocks$City", name := "doorsOpenTo", desc := "(I)I" } : Jvm.MethodName) ({ cls := "FearLocks$City", name := "doorsOpenTo", desc := "(I)I" } : Jvm.MethodName)) ∈ fx_TB := fx_m4 41 (by decide +kernel) rfl
theorem tb_762 : (Jvm.Cond.code ({ cls := "FearLocks$City", name := "doorsOpenTo", desc := "(I)I" } : Jvm.MethodName) prog_2_method_19_code (4 : Nat) (Option.some Jvm.ClassFile.FieldType.int)) ∈ fx_TB := fx_m4 42 (by decide +kernel) rfl
theorem tb_763 : (Jvm.Cond.methodLink "FearLocks$City" (82 : Nat) ({ cls := "FearLocks$City", name := "opens", desc := "(II)Z" } : Jvm.MethodName)) ∈ fx_TB := fx_m4 43 (by decide +kernel) rfl
theorem tb_764 : (Jvm.Cond.methodLink "FearLocks" (153 : Nat) ({ cls := "FearLocks$City", name := "dreadInAll", desc := "(I)I" } : Jvm.MethodName)) ∈ fx_TB := fx_m4 44 (by decide +kernel) rfl
theorem tb_765 : (Jvm.Cond.instanceMethod ({ cls := "FearLocks$City", name := "dreadInAll", desc := "(I)I" } : Jvm.MethodName)) ∈ fx_TB := fx_m4 45 (by decide +kernel) rfl
theorem tb_766 : (Jvm.Cond.selects "FearLocks$City" ({ cls := "FearLocks$City", name := "dreadInAll", desc := "(I)I" } : Jvm.MethodName) ({ cls := "FearLocks$City", name := "dreadInAll", desc := "(I)I" } : Jvm.MethodName)) ∈ fx_TB := fx_m4 46 (by decide +kernel) rfl
theorem tb_767 : (Jvm.Cond.code ({ cls := "FearLocks$City", name := "dreadInAll", desc := "(I)I" } : Jvm.MethodName) prog_2_method_7_code (4 : Nat) (Option.some Jvm.ClassFile.FieldType.int)) ∈ fx_TB := fx_m4 47 (by decide +kernel) rfl
theorem tb_768 : (Jvm.Cond.methodLink "FearLocksLaw" (44 : Nat) ({ cls := "FearLocks", name := "doorIs", desc := "(II)I" } : Jvm.MethodName)) ∈ fx_TB := fx_m4 48 (by decide +kernel) rfl
theorem tb_769 : (Jvm.Cond.instanceMethod ({ cls := "FearLocks", name := "doorIs", desc := "(II)I" } : Jvm.MethodName)) ∈ fx_TB := fx_m4 49 (by decide +kernel) rfl
theorem tb_770 : (Jvm.Cond.selects "FearLocks" ({ cls := "FearLocks", name := "doorIs", desc := "(II)I" } : Jvm.MethodName) ({ cls := "FearLocks", name := "doorIs", desc := "(II)I" } : Jvm.MethodName)) ∈ fx_TB := fx_m4 50 (by decide +kernel) rfl
theorem tb_771 : (Jvm.Cond.code ({ cls := "FearLocks", name := "doorIs", desc := "(II)I" } : Jvm.MethodName) prog_1_method_10_code (3 : Nat) (Option.some Jvm.ClassFile.FieldType.int)) ∈ fx_TB := fx_m4 51 (by decide +kernel) rfl
theorem tb_772 : (Jvm.Cond.methodLink "FearLocks" (166 : Nat) ({ cls := "FearLocks$City", name := "openersOf", desc := "(I)I" } : Jvm.MethodName)) ∈ fx_TB := fx_m4 52 (by decide +kernel) rfl
theorem tb_773 : (Jvm.Cond.instanceMethod ({ cls := "FearLocks$City", name := "openersOf", desc := "(I)I" } : Jvm.MethodName)) ∈ fx_TB := fx_m4 53 (by decide +kernel) rfl
theorem tb_774 : (Jvm.Cond.selects "FearLocks$City" ({ cls := "FearLocks$City", name := "openersOf", desc := "(I)I" } : Jvm.MethodName) ({ cls := "FearLocks$City", name := "openersOf", desc := "(I)I" } : Jvm.MethodName)) ∈ fx_TB := fx_m4 54 (by decide +kernel) rfl
theorem tb_775 : (Jvm.Cond.code ({ cls := "FearLocks$City", name := "openersOf", desc := "(I)I" } : Jvm.MethodName) prog_2_method_20_code (4 : Nat) (Option.some Jvm.ClassFile.FieldType.int)) ∈ fx_TB := fx_m4 55 (by decide +kernel) rfl
theorem tb_776 : (Jvm.Cond.methodLink "FearLocksLaw" (48 : Nat) ({ cls := "FearLocks", name := "taught", desc := "(II)I" } : Jvm.MethodName)) ∈ fx_TB := fx_m4 56 (by decide +kernel) rfl
theorem tb_777 : (Jvm.Cond.instanceMethod ({ cls := "FearLocks", name := "taught", desc := "(II)I" } : Jvm.MethodName)) ∈ fx_TB := fx_m4 57 (by decide +kernel) rfl
theorem tb_778 : (Jvm.Cond.selects "FearLocks" ({ cls := "FearLocks", name := "taught", desc := "(II)I" } : Jvm.MethodName) ({ cls := "FearLocks", name := "taught", desc := "(II)I" } : Jvm.MethodName)) ∈ fx_TB := fx_m4 58 (by decide +kernel) rfl
theorem tb_779 : (Jvm.Cond.code ({ cls := "FearLocks", name := "taught", desc := "(II)I" } : Jvm.MethodName) prog_1_method_11_code (3 : Nat) (Option.some Jvm.ClassFile.FieldType.int)) ∈ fx_TB := fx_m4 59 (by decide +kernel) rfl
theorem tb_780 : (Jvm.Cond.methodLink "FearLocks" (169 : Nat) ({ cls := "FearLocks$Keys", name := "lessons", desc := "(LFearLocks$City;II)I" } : Jvm.MethodName)) ∈ fx_TB := fx_m4 60 (by decide +kernel) rfl
theorem tb_781 : (Jvm.Cond.static ({ cls := "FearLocks$Keys", name := "lessons", desc := "(LFearLocks$City;II)I" } : Jvm.MethodName)) ∈ fx_TB := fx_m4 61 (by decide +kernel) rfl
theorem tb_782 : (Jvm.Cond.code ({ cls := "FearLocks$Keys", name := "lessons", desc := "(LFearLocks$City;II)I" } : Jvm.MethodName) prog_5_method_2_code (8 : Nat) (Option.some Jvm.ClassFile.FieldType.int)) ∈ fx_TB := fx_m4 62 (by decide +kernel) rfl
theorem tb_783 : (Jvm.Cond.methodLink "FearLocks$Keys" (15 : Nat) ({ cls := "FearLocks$City", name := "isDoor", desc := "(I)Z" } : Jvm.MethodName)) ∈ fx_TB := fx_m4 63 (by decide +kernel) rfl
theorem tb_784 : (Jvm.Cond.methodLink "FearLocks$Keys" (27 : Nat) ({ cls := "java/lang/Math", name := "max", desc := "(II)I" } : Jvm.MethodName)) ∈ fx_TB := fx_m4 64 (by decide +kernel) rfl
theorem tb_785 : (Jvm.Cond.methodLink "FearLocks$Keys" (33 : Nat) ({ cls := "FearLocks$City", name := "dreadOf", desc := "(II)I" } : Jvm.MethodName)) ∈ fx_TB := fx_m4 65 (by decide +kernel) rfl
theorem tb_786 : (Jvm.Cond.methodLink "FearLocks$Keys" (36 : Nat) ({ cls := "java/lang/Math", name := "abs", desc := "(I)I" } : Jvm.MethodName)) ∈ fx_TB := fx_m4 66 (by decide +kernel) rfl
theorem tb_787 : (Jvm.Cond.static ({ cls := "java/lang/Math", name := "abs", desc := "(I)I" } : Jvm.MethodName)) ∈ fx_TB := fx_m4 67 (by decide +kernel) rfl
theorem tb_788 : (Jvm.Cond.code ({ cls := "java/lang/Math", name := "abs", desc := "(I)I" } : Jvm.MethodName) prog_17_method_59_code (1 : Nat) (Option.some Jvm.ClassFile.FieldType.int)) ∈ fx_TB := fx_m4 68 (by decide +kernel) rfl
theorem tb_789 : (Jvm.Cond.methodLink "FearLocks$Keys" (40 : Nat) ({ cls := "java/lang/Math", name := "min", desc := "(II)I" } : Jvm.MethodName)) ∈ fx_TB := fx_m4 69 (by decide +kernel) rfl
theorem tb_790 : (Jvm.Cond.methodLink "FearLocksLaw" (52 : Nat) ({ cls := "FearLocks", name := "crew", desc := "(I)I" } : Jvm.MethodName)) ∈ fx_TB := fx_m4 70 (by decide +kernel) rfl
theorem tb_791 : (Jvm.Cond.instanceMethod ({ cls := "FearLocks", name := "crew", desc := "(I)I" } : Jvm.MethodName)) ∈ fx_TB := fx_m4 71 (by decide +kernel) rfl
theorem tb_792 : (Jvm.Cond.selects "FearLocks" ({ cls := "FearLocks", name := "crew", desc := "(I)I" } : Jvm.MethodName) ({ cls := "FearLocks", name := "crew", desc := "(I)I" } : Jvm.MethodName)) ∈ fx_TB := fx_m4 72 (by decide +kernel) rfl
theorem tb_793 : (Jvm.Cond.code ({ cls := "FearLocks", name := "crew", desc := "(I)I" } : Jvm.MethodName) prog_1_method_12_code (3 : Nat) (Option.some Jvm.ClassFile.FieldType.int)) ∈ fx_TB := fx_m4 73 (by decide +kernel) rfl
theorem tb_794 : (Jvm.Cond.methodLink "FearLocks" (173 : Nat) ({ cls := "FearLocks$Keys", name := "fewestForAllDoors", desc := "(LFearLocks$City;)I" } : Jvm.MethodName)) ∈ fx_TB := fx_m4 74 (by decide +kernel) rfl
theorem tb_795 : (Jvm.Cond.instanceMethod ({ cls := "FearLocks$Keys", name := "fewestForAllDoors", desc := "(LFearLocks$City;)I" } : Jvm.MethodName)) ∈ fx_TB := fx_m4 75 (by decide +kernel) rfl
theorem tb_796 : (Jvm.Cond.selects "FearLocks$Keys" ({ cls := "FearLocks$Keys", name := "fewestForAllDoors", desc := "(LFearLocks$City;)I" } : Jvm.MethodName) ({ cls := "FearLocks$Keys", name := "fewestForAllDoors", desc := "(LFearLocks$City;)I" } : Jvm.MethodName)) ∈ fx_TB := fx_m4 76 (by decide +kernel) rfl
theorem tb_797 : (Jvm.Cond.code ({ cls := "FearLocks$Keys", name := "fewestForAllDoors", desc := "(LFearLocks$City;)I" } : Jvm.MethodName) prog_5_method_3_code (6 : Nat) (Option.some Jvm.ClassFile.FieldType.int)) ∈ fx_TB := fx_m4 77 (by decide +kernel) rfl
theorem tb_798 : (Jvm.Cond.methodLink "FearLocks$Keys" (43 : Nat) ({ cls := "FearLocks$City", name := "doorsOpenTo", desc := "(I)I" } : Jvm.MethodName)) ∈ fx_TB := fx_m4 78 (by decide +kernel) rfl
theorem tb_799 : (Jvm.Cond.methodLink "FearLocks$Keys" (46 : Nat) ({ cls := "java/lang/Integer", name := "bitCount", desc := "(I)I" } : Jvm.MethodName)) ∈ fx_TB := fx_m4 79 (by decide +kernel) rfl
theorem tb_800 : (Jvm.Cond.methodLink "FearLocks$Keys" (51 : Nat) ({ cls := "FearLocks$Keys", name := "openedBy", desc := "(I)I" } : Jvm.MethodName)) ∈ fx_TB := fx_m4 80 (by decide +kernel) rfl
theorem tb_802 : (Jvm.Cond.instanceMethod ({ cls := "FearLocks$Keys", name := "openedBy", desc := "(I)I" } : Jvm.MethodName)) ∈ fx_TB := fx_m4 82 (by decide +kernel) rfl
theorem tb_803 : (Jvm.Cond.code ({ cls := "FearLocks$Keys", name := "openedBy", desc := "(I)I" } : Jvm.MethodName) prog_5_method_4_code (4 : Nat) (Option.some Jvm.ClassFile.FieldType.int)) ∈ fx_TB := fx_m4 83 (by decide +kernel) rfl
theorem tb_804 : (Jvm.Cond.methodLinkNest "FearLocks$Keys" (58 : Nat) ({ cls := "FearLocks", name := "has", desc := "(II)Z" } : Jvm.MethodName) "FearLocks") ∈ fx_NW := fx_n4 84 (by decide +kernel) rfl
theorem tb_805 : (Jvm.Cond.methodLink "FearLocks" (177 : Nat) ({ cls := "java/lang/Integer", name := "bitCount", desc := "(I)I" } : Jvm.MethodName)) ∈ fx_TB := fx_m4 85 (by decide +kernel) rfl
theorem tb_806 : (Jvm.Cond.methodLink "FearLocksLaw" (56 : Nat) ({ cls := "FearLocks", name := "lodgings", desc := "()I" } : Jvm.MethodName)) ∈ fx_TB := fx_m4 86 (by decide +kernel) rfl
theorem tb_807 : (Jvm.Cond.instanceMethod ({ cls := "FearLocks", name := "lodgings", desc := "()I" } : Jvm.MethodName)) ∈ fx_TB := fx_m4 87 (by decide +kernel) rfl
theorem tb_808 : (Jvm.Cond.selects "FearLocks" ({ cls := "FearLocks", name := "lodgings", desc := "()I" } : Jvm.MethodName) ({ cls := "FearLocks", name := "lodgings", desc := "()I" } : Jvm.MethodName)) ∈ fx_TB := fx_m4 88 (by decide +kernel) rfl
theorem tb_809 : (Jvm.Cond.code ({ cls := "FearLocks", name := "lodgings", desc := "()I" } : Jvm.MethodName) prog_1_method_13_code (1 : Nat) (Option.some Jvm.ClassFile.FieldType.int)) ∈ fx_TB := fx_m4 89 (by decide +kernel) rfl
theorem tb_810 : (Jvm.Cond.methodLink "FearLocks" (182 : Nat) ({ cls := "FearLocks$Keys", name := "mostLet", desc := "(LFearLocks$City;)I" } : Jvm.MethodName)) ∈ fx_TB := fx_m4 90 (by decide +kernel) rfl
theorem tb_811 : (Jvm.Cond.static ({ cls := "FearLocks$Keys", name := "mostLet", desc := "(LFearLocks$City;)I" } : Jvm.MethodName)) ∈ fx_TB := fx_m4 91 (by decide +kernel) rfl
theorem tb_812 : (Jvm.Cond.code ({ cls := "FearLocks$Keys", name := "mostLet", desc := "(LFearLocks$City;)I" } : Jvm.MethodName) prog_5_method_5_code (5 : Nat) (Option.some Jvm.ClassFile.FieldType.int)) ∈ fx_TB := fx_m4 92 (by decide +kernel) rfl
theorem tb_813 : (Jvm.Cond.methodLink "FearLocks$Keys" (62 : Nat) ({ cls := "FearLocks$City", name := "openersOf", desc := "(I)I" } : Jvm.MethodName)) ∈ fx_TB := fx_m4 93 (by decide +kernel) rfl
theorem tb_814 : (Jvm.Cond.methodLink "FearLocksLaw" (61 : Nat) ({ cls := "FearLocks", name := "couples", desc := "(I)I" } : Jvm.MethodName)) ∈ fx_TB := fx_m4 94 (by decide +kernel) rfl
theorem tb_815 : (Jvm.Cond.instanceMethod ({ cls := "FearLocks", name := "couples", desc := "(I)I" } : Jvm.MethodName)) ∈ fx_TB := fx_m4 95 (by decide +kernel) rfl
theorem tb_816 : (Jvm.Cond.selects "FearLocks" ({ cls := "FearLocks", name := "couples", desc := "(I)I" } : Jvm.MethodName) ({ cls := "FearLocks", name := "couples", desc := "(I)I" } : Jvm.MethodName)) ∈ fx_TB := fx_m4 96 (by decide +kernel) rfl
theorem tb_817 : (Jvm.Cond.code ({ cls := "FearLocks", name := "couples", desc := "(I)I" } : Jvm.MethodName) prog_1_method_14_code (2 : Nat) (Option.some Jvm.ClassFile.FieldType.int)) ∈ fx_TB := fx_m4 97 (by decide +kernel) rfl
theorem tb_818 : (Jvm.Cond.methodLink "FearLocks" (185 : Nat) ({ cls := "FearLocks$Company", name := "mostCouples", desc := "(LFearLocks$City;I)I" } : Jvm.MethodName)) ∈ fx_TB := fx_m4 98 (by decide +kernel) rfl
theorem tb_819 : (Jvm.Cond.instanceMethod ({ cls := "FearLocks$Company", name := "mostCouples", desc := "(LFearLocks$City;I)I" } : Jvm.MethodName)) ∈ fx_TB := fx_m4 99 (by decide +kernel) rfl
theorem tb_820 : (Jvm.Cond.selects "FearLocks$Company" ({ cls := "FearLocks$Company", name := "mostCouples", desc := "(LFearLocks$City;I)I" } : Jvm.MethodName) ({ cls := "FearLocks$Company", name := "mostCouples", desc := "(LFearLocks$City;I)I" } : Jvm.MethodName)) ∈ fx_TB := fx_m4 100 (by decide +kernel) rfl
theorem tb_821 : (Jvm.Cond.code ({ cls := "FearLocks$Company", name := "mostCouples", desc := "(LFearLocks$City;I)I" } : Jvm.MethodName) prog_3_method_12_code (5 : Nat) (Option.some Jvm.ClassFile.FieldType.int)) ∈ fx_TB := fx_m4 101 (by decide +kernel) rfl
theorem tb_822 : (Jvm.Cond.methodLink "FearLocks$Company" (68 : Nat) ({ cls := "FearLocks$Company", name := "linkFellows", desc := "(LFearLocks$City;I)V" } : Jvm.MethodName)) ∈ fx_TB := fx_m4 102 (by decide +kernel) rfl
theorem tb_824 : (Jvm.Cond.instanceMethod ({ cls := "FearLocks$Company", name := "linkFellows", desc := "(LFearLocks$City;I)V" } : Jvm.MethodName)) ∈ fx_TB := fx_m4 104 (by decide +kernel) rfl
theorem tb_825 : (Jvm.Cond.code ({ cls := "FearLocks$Company", name := "linkFellows", desc := "(LFearLocks$City;I)V" } : Jvm.MethodName) prog_3_method_13_code (5 : Nat) (Option.none : Option Jvm.ClassFile.FieldType)) ∈ fx_TB := fx_m4 105 (by decide +kernel) rfl
theorem tb_826 : (Jvm.Cond.methodLink "FearLocks$Company" (75 : Nat) ({ cls := "FearLocks$City", name := "fearsFrom", desc := "(II)I" } : Jvm.MethodName)) ∈ fx_TB := fx_m4 106 (by decide +kernel) rfl
theorem tb_827 : (Jvm.Cond.instanceMethod ({ cls := "FearLocks$City", name := "fearsFrom", desc := "(II)I" } : Jvm.MethodName)) ∈ fx_TB := fx_m4 107 (by decide +kernel) rfl
theorem tb_828 : (Jvm.Cond.selects "FearLocks$City" ({ cls := "FearLocks$City", name := "fearsFrom", desc := "(II)I" } : Jvm.MethodName) ({ cls := "FearLocks$City", name := "fearsFrom", desc := "(II)I" } : Jvm.MethodName)) ∈ fx_TB := fx_m4 108 (by decide +kernel) rfl
theorem tb_829 : (Jvm.Cond.code ({ cls := "FearLocks$City", name := "fearsFrom", desc := "(II)I" } : Jvm.MethodName) prog_2_method_12_code (5 : Nat) (Option.some Jvm.ClassFile.FieldType.int)) ∈ fx_TB := fx_m4 109 (by decide +kernel) rfl
theorem tb_830 : (Jvm.Cond.methodLink "FearLocks$Company" (72 : Nat) ({ cls := "FearLocks$Company", name := "mostWith", desc := "(II)I" } : Jvm.MethodName)) ∈ fx_TB := fx_m4 110 (by decide +kernel) rfl
theorem tb_832 : (Jvm.Cond.instanceMethod ({ cls := "FearLocks$Company", name := "mostWith", desc := "(II)I" } : Jvm.MethodName)) ∈ fx_TB := fx_m4 112 (by decide +kernel) rfl
theorem tb_833 : (Jvm.Cond.code ({ cls := "FearLocks$Company", name := "mostWith", desc := "(II)I" } : Jvm.MethodName) prog_3_method_14_code (5 : Nat) (Option.some Jvm.ClassFile.FieldType.int)) ∈ fx_TB := fx_m4 113 (by decide +kernel) rfl
theorem tb_834 : (Jvm.Cond.methodLinkNest "FearLocks$Company" (18 : Nat) ({ cls := "FearLocks", name := "has", desc := "(II)Z" } : Jvm.MethodName) "FearLocks") ∈ fx_NW := fx_n4 114 (by decide +kernel) rfl
theorem tb_835 : (Jvm.Cond.methodLink "FearLocks$Company" (78 : Nat) ({ cls := "java/lang/Math", name := "max", desc := "(II)I" } : Jvm.MethodName)) ∈ fx_TB := fx_m4 115 (by decide +kernel) rfl
theorem tb_836 : (Jvm.Cond.methodLink "FearLocksLaw" (65 : Nat) ({ cls := "FearLocks", name := "fashion", desc := "(III)I" } : Jvm.MethodName)) ∈ fx_TB := fx_m4 116 (by decide +kernel) rfl
theorem tb_837 : (Jvm.Cond.instanceMethod ({ cls := "FearLocks", name := "fashion", desc := "(III)I" } : Jvm.MethodName)) ∈ fx_TB := fx_m4 117 (by decide +kernel) rfl
theorem tb_838 : (Jvm.Cond.selects "FearLocks" ({ cls := "FearLocks", name := "fashion", desc := "(III)I" } : Jvm.MethodName) ({ cls := "FearLocks", name := "fashion", desc := "(III)I" } : Jvm.MethodName)) ∈ fx_TB := fx_m4 118 (by decide +kernel) rfl
theorem tb_839 : (Jvm.Cond.code ({ cls := "FearLocks", name := "fashion", desc := "(III)I" } : Jvm.MethodName) prog_1_method_15_code (7 : Nat) (Option.some Jvm.ClassFile.FieldType.int)) ∈ fx_TB := fx_m4 119 (by decide +kernel) rfl
theorem tb_840 : (Jvm.Cond.methodLink "FearLocks" (189 : Nat) ({ cls := "FearLocks$City", name := "havingFear", desc := "(I)I" } : Jvm.MethodName)) ∈ fx_TB := fx_m4 120 (by decide +kernel) rfl
theorem tb_841 : (Jvm.Cond.instanceMethod ({ cls := "FearLocks$City", name := "havingFear", desc := "(I)I" } : Jvm.MethodName)) ∈ fx_TB := fx_m4 121 (by decide +kernel) rfl
theorem tb_842 : (Jvm.Cond.selects "FearLocks$City" ({ cls := "FearLocks$City", name := "havingFear", desc := "(I)I" } : Jvm.MethodName) ({ cls := "FearLocks$City", name := "havingFear", desc := "(I)I" } : Jvm.MethodName)) ∈ fx_TB := fx_m4 122 (by decide +kernel) rfl
theorem tb_843 : (Jvm.Cond.code ({ cls := "FearLocks$City", name := "havingFear", desc := "(I)I" } : Jvm.MethodName) prog_2_method_9_code (4 : Nat) (Option.some Jvm.ClassFile.FieldType.int)) ∈ fx_TB := fx_m4 123 (by decide +kernel) rfl
theorem tb_844 : (Jvm.Cond.methodLink "FearLocks" (192 : Nat) ({ cls := "FearLocks$Company", name := "grownFashion", desc := "(LFearLocks$City;II)I" } : Jvm.MethodName)) ∈ fx_TB := fx_m4 124 (by decide +kernel) rfl
theorem tb_845 : (Jvm.Cond.static ({ cls := "FearLocks$Company", name := "grownFashion", desc := "(LFearLocks$City;II)I" } : Jvm.MethodName)) ∈ fx_TB := fx_m4 125 (by decide +kernel) rfl
theorem tb_846 : (Jvm.Cond.code ({ cls := "FearLocks$Company", name := "grownFashion", desc := "(LFearLocks$City;II)I" } : Jvm.MethodName) prog_3_method_6_code (5 : Nat) (Option.some Jvm.ClassFile.FieldType.int)) ∈ fx_TB := fx_m4 126 (by decide +kernel) rfl
theorem tb_847 : (Jvm.Cond.methodLink "FearLocks$Company" (32 : Nat) ({ cls := "FearLocks$City", name := "knownTo", desc := "(I)I" } : Jvm.MethodName)) ∈ fx_TB := fx_m4 127 (by decide +kernel) rfl
theorem tb_848 : (Jvm.Cond.methodLink "FearLocks$Company" (43 : Nat) ({ cls := "java/lang/Integer", name := "bitCount", desc := "(I)I" } : Jvm.MethodName)) ∈ fx_TB := fx_m4 128 (by decide +kernel) rfl
theorem tb_849 : (Jvm.Cond.methodLink "FearLocksLaw" (70 : Nat) ({ cls := "FearLocks", name := "fears", desc := "(I)I" } : Jvm.MethodName)) ∈ fx_TB := fx_m4 129 (by decide +kernel) rfl
theorem tb_850 : (Jvm.Cond.instanceMethod ({ cls := "FearLocks", name := "fears", desc := "(I)I" } : Jvm.MethodName)) ∈ fx_TB := fx_m4 130 (by decide +kernel) rfl
theorem tb_851 : (Jvm.Cond.selects "FearLocks" ({ cls := "FearLocks", name := "fears", desc := "(I)I" } : Jvm.MethodName) ({ cls := "FearLocks", name := "fears", desc := "(I)I" } : Jvm.MethodName)) ∈ fx_TB := fx_m4 131 (by decide +kernel) rfl
theorem tb_852 : (Jvm.Cond.code ({ cls := "FearLocks", name := "fears", desc := "(I)I" } : Jvm.MethodName) prog_1_method_16_code (2 : Nat) (Option.some Jvm.ClassFile.FieldType.int)) ∈ fx_TB := fx_m4 132 (by decide +kernel) rfl
theorem tb_853 : (Jvm.Cond.methodLink "FearLocks" (195 : Nat) ({ cls := "FearLocks$City", name := "nobodysFears", desc := "()I" } : Jvm.MethodName)) ∈ fx_TB := fx_m4 133 (by decide +kernel) rfl
theorem tb_854 : (Jvm.Cond.instanceMethod ({ cls := "FearLocks$City", name := "nobodysFears", desc := "()I" } : Jvm.MethodName)) ∈ fx_TB := fx_m4 134 (by decide +kernel) rfl
theorem tb_855 : (Jvm.Cond.selects "FearLocks$City" ({ cls := "FearLocks$City", name := "nobodysFears", desc := "()I" } : Jvm.MethodName) ({ cls := "FearLocks$City", name := "nobodysFears", desc := "()I" } : Jvm.MethodName)) ∈ fx_TB := fx_m4 135 (by decide +kernel) rfl
theorem tb_856 : (Jvm.Cond.code ({ cls := "FearLocks$City", name := "nobodysFears", desc := "()I" } : Jvm.MethodName) prog_2_method_10_code (3 : Nat) (Option.some Jvm.ClassFile.FieldType.int)) ∈ fx_TB := fx_m4 136 (by decide +kernel) rfl
theorem tb_857 : (Jvm.Cond.constant "FearLocks$City" (66 : Nat) (65535 : Int32)) ∈ fx_TB := fx_m4 137 (by decide +kernel) rfl
theorem tb_858 : (Jvm.Cond.methodLink "FearLocks$City" (67 : Nat) ({ cls := "FearLocks$City", name := "fearsFrom", desc := "(II)I" } : Jvm.MethodName)) ∈ fx_TB := fx_m4 138 (by decide +kernel) rfl
theorem tb_859 : (Jvm.Cond.methodLink "FearLocks" (199 : Nat) ({ cls := "FearLocks$City", name := "allsFears", desc := "()I" } : Jvm.MethodName)) ∈ fx_TB := fx_m4 139 (by decide +kernel) rfl
theorem tb_860 : (Jvm.Cond.instanceMethod ({ cls := "FearLocks$City", name := "allsFears", desc := "()I" } : Jvm.MethodName)) ∈ fx_TB := fx_m4 140 (by decide +kernel) rfl
theorem tb_861 : (Jvm.Cond.selects "FearLocks$City" ({ cls := "FearLocks$City", name := "allsFears", desc := "()I" } : Jvm.MethodName) ({ cls := "FearLocks$City", name := "allsFears", desc := "()I" } : Jvm.MethodName)) ∈ fx_TB := fx_m4 141 (by decide +kernel) rfl
theorem tb_862 : (Jvm.Cond.code ({ cls := "FearLocks$City", name := "allsFears", desc := "()I" } : Jvm.MethodName) prog_2_method_11_code (3 : Nat) (Option.some Jvm.ClassFile.FieldType.int)) ∈ fx_TB := fx_m4 142 (by decide +kernel) rfl
theorem tb_863 : (Jvm.Cond.methodLink "FearLocksLaw" (74 : Nat) ({ cls := "FearLocks", name := "unlike", desc := "(II)I" } : Jvm.MethodName)) ∈ fx_TB := fx_m4 143 (by decide +kernel) rfl
theorem tb_864 : (Jvm.Cond.instanceMethod ({ cls := "FearLocks", name := "unlike", desc := "(II)I" } : Jvm.MethodName)) ∈ fx_TB := fx_m4 144 (by decide +kernel) rfl
theorem tb_865 : (Jvm.Cond.selects "FearLocks" ({ cls := "FearLocks", name := "unlike", desc := "(II)I" } : Jvm.MethodName) ({ cls := "FearLocks", name := "unlike", desc := "(II)I" } : Jvm.MethodName)) ∈ fx_TB := fx_m4 145 (by decide +kernel) rfl
theorem tb_866 : (Jvm.Cond.code ({ cls := "FearLocks", name := "unlike", desc := "(II)I" } : Jvm.MethodName) prog_1_method_17_code (3 : Nat) (Option.some Jvm.ClassFile.FieldType.int)) ∈ fx_TB := fx_m4 146 (by decide +kernel) rfl
theorem tb_867 : (Jvm.Cond.methodLink "FearLocks" (202 : Nat) ({ cls := "FearLocks$Company", name := "difference", desc := "(LFearLocks$City;II)I" } : Jvm.MethodName)) ∈ fx_TB := fx_m4 147 (by decide +kernel) rfl
theorem tb_868 : (Jvm.Cond.static ({ cls := "FearLocks$Company", name := "difference", desc := "(LFearLocks$City;II)I" } : Jvm.MethodName)) ∈ fx_TB := fx_m4 148 (by decide +kernel) rfl
theorem tb_869 : (Jvm.Cond.code ({ cls := "FearLocks$Company", name := "difference", desc := "(LFearLocks$City;II)I" } : Jvm.MethodName) prog_3_method_7_code (5 : Nat) (Option.some Jvm.ClassFile.FieldType.int)) ∈ fx_TB := fx_m4 149 (by decide +kernel) rfl
theorem tb_870 : (Jvm.Cond.methodLink "FearLocks$Company" (48 : Nat) ({ cls := "FearLocks$City", name := "dreadOf", desc := "(II)I" } : Jvm.MethodName)) ∈ fx_TB := fx_m4 150 (by decide +kernel) rfl
theorem tb_871 : (Jvm.Cond.methodLink "FearLocks$Company" (52 : Nat) ({ cls := "java/lang/Math", name := "abs", desc := "(I)I" } : Jvm.MethodName)) ∈ fx_TB := fx_m4 151 (by decide +kernel) rfl
theorem tb_872 : (Jvm.Cond.methodLink "FearLocksLaw" (78 : Nat) ({ cls := "FearLocks", name := "mostLike", desc := "(I)I" } : Jvm.MethodName)) ∈ fx_TB := fx_m4 152 (by decide +kernel) rfl
end
section
theorem tb_873 : (Jvm.Cond.instanceMethod ({ cls := "FearLocks", name := "mostLike", desc := "(I)I" } : Jvm.MethodName)) ∈ fx_TB := fx_m4 153 (by decide +kernel) rfl
theorem tb_874 : (Jvm.Cond.selects "FearLocks" ({ cls := "FearLocks", name := "mostLike", desc := "(I)I" } : Jvm.MethodName) ({ cls := "FearLocks", name := "mostLike", desc := "(I)I" } : Jvm.MethodName)) ∈ fx_TB := fx_m4 154 (by decide +kernel) rfl
theorem tb_875 : (Jvm.Cond.code ({ cls := "FearLocks", name := "mostLike", desc := "(I)I" } : Jvm.MethodName) prog_1_method_18_code (2 : Nat) (Option.some Jvm.ClassFile.FieldType.int)) ∈ fx_TB := fx_m4 155 (by decide +kernel) rfl
theorem tb_876 : (Jvm.Cond.methodLink "FearLocks" (205 : Nat) ({ cls := "FearLocks$Company", name := "nearestTo", desc := "(LFearLocks$City;I)I" } : Jvm.MethodName)) ∈ fx_TB := fx_m4 156 (by decide +kernel) rfl
theorem tb_877 : (Jvm.Cond.static ({ cls := "FearLocks$Company", name := "nearestTo", desc := "(LFearLocks$City;I)I" } : Jvm.MethodName)) ∈ fx_TB := fx_m4 157 (by decide +kernel) rfl
theorem tb_878 : (Jvm.Cond.code ({ cls := "FearLocks$Company", name := "nearestTo", desc := "(LFearLocks$City;I)I" } : Jvm.MethodName) prog_3_method_8_code (5 : Nat) (Option.some Jvm.ClassFile.FieldType.int)) ∈ fx_TB := fx_m4 158 (by decide +kernel) rfl
theorem tb_879 : (Jvm.Cond.methodLink "FearLocks$Company" (57 : Nat) ({ cls := "FearLocks$City", name := "isPerson", desc := "(I)Z" } : Jvm.MethodName)) ∈ fx_TB := fx_m4 159 (by decide +kernel) rfl
theorem tb_880 : (Jvm.Cond.methodLink "FearLocks$Company" (61 : Nat) ({ cls := "FearLocks$Company", name := "difference", desc := "(LFearLocks$City;II)I" } : Jvm.MethodName)) ∈ fx_TB := fx_m4 160 (by decide +kernel) rfl
theorem tb_881 : (Jvm.Cond.methodLink "FearLocksLaw" (82 : Nat) ({ cls := "FearLocks", name := "circles", desc := "(II)I" } : Jvm.MethodName)) ∈ fx_TB := fx_m4 161 (by decide +kernel) rfl
theorem tb_882 : (Jvm.Cond.instanceMethod ({ cls := "FearLocks", name := "circles", desc := "(II)I" } : Jvm.MethodName)) ∈ fx_TB := fx_m4 162 (by decide +kernel) rfl
theorem tb_883 : (Jvm.Cond.selects "FearLocks" ({ cls := "FearLocks", name := "circles", desc := "(II)I" } : Jvm.MethodName) ({ cls := "FearLocks", name := "circles", desc := "(II)I" } : Jvm.MethodName)) ∈ fx_TB := fx_m4 163 (by decide +kernel) rfl
theorem tb_884 : (Jvm.Cond.code ({ cls := "FearLocks", name := "circles", desc := "(II)I" } : Jvm.MethodName) prog_1_method_19_code (3 : Nat) (Option.some Jvm.ClassFile.FieldType.int)) ∈ fx_TB := fx_m4 164 (by decide +kernel) rfl
theorem tb_885 : (Jvm.Cond.methodLink "FearLocks" (208 : Nat) ({ cls := "FearLocks$Company", name := "linkAlike", desc := "(LFearLocks$City;I)V" } : Jvm.MethodName)) ∈ fx_TB := fx_m4 165 (by decide +kernel) rfl
theorem tb_886 : (Jvm.Cond.instanceMethod ({ cls := "FearLocks$Company", name := "linkAlike", desc := "(LFearLocks$City;I)V" } : Jvm.MethodName)) ∈ fx_TB := fx_m4 166 (by decide +kernel) rfl
theorem tb_887 : (Jvm.Cond.selects "FearLocks$Company" ({ cls := "FearLocks$Company", name := "linkAlike", desc := "(LFearLocks$City;I)V" } : Jvm.MethodName) ({ cls := "FearLocks$Company", name := "linkAlike", desc := "(LFearLocks$City;I)V" } : Jvm.MethodName)) ∈ fx_TB := fx_m4 167 (by decide +kernel) rfl
theorem tb_888 : (Jvm.Cond.code ({ cls := "FearLocks$Company", name := "linkAlike", desc := "(LFearLocks$City;I)V" } : Jvm.MethodName) prog_3_method_9_code (5 : Nat) (Option.none : Option Jvm.ClassFile.FieldType)) ∈ fx_TB := fx_m4 168 (by decide +kernel) rfl
theorem tb_889 : (Jvm.Cond.methodLink "FearLocks" (215 : Nat) ({ cls := "FearLocks$Company", name := "circlesOf", desc := "(I)I" } : Jvm.MethodName)) ∈ fx_TB := fx_m4 169 (by decide +kernel) rfl
theorem tb_890 : (Jvm.Cond.instanceMethod ({ cls := "FearLocks$Company", name := "circlesOf", desc := "(I)I" } : Jvm.MethodName)) ∈ fx_TB := fx_m4 170 (by decide +kernel) rfl
theorem tb_891 : (Jvm.Cond.selects "FearLocks$Company" ({ cls := "FearLocks$Company", name := "circlesOf", desc := "(I)I" } : Jvm.MethodName) ({ cls := "FearLocks$Company", name := "circlesOf", desc := "(I)I" } : Jvm.MethodName)) ∈ fx_TB := fx_m4 171 (by decide +kernel) rfl
theorem tb_892 : (Jvm.Cond.code ({ cls := "FearLocks$Company", name := "circlesOf", desc := "(I)I" } : Jvm.MethodName) prog_3_method_11_code (5 : Nat) (Option.some Jvm.ClassFile.FieldType.int)) ∈ fx_TB := fx_m4 172 (by decide +kernel) rfl
theorem tb_893 : (Jvm.Cond.methodLink "FearLocks$Company" (65 : Nat) ({ cls := "FearLocks$Company", name := "circleOf", desc := "(II)I" } : Jvm.MethodName)) ∈ fx_TB := fx_m4 173 (by decide +kernel) rfl
theorem tb_894 : (Jvm.Cond.instanceMethod ({ cls := "FearLocks$Company", name := "circleOf", desc := "(II)I" } : Jvm.MethodName)) ∈ fx_TB := fx_m4 174 (by decide +kernel) rfl
theorem tb_895 : (Jvm.Cond.selects "FearLocks$Company" ({ cls := "FearLocks$Company", name := "circleOf", desc := "(II)I" } : Jvm.MethodName) ({ cls := "FearLocks$Company", name := "circleOf", desc := "(II)I" } : Jvm.MethodName)) ∈ fx_TB := fx_m4 175 (by decide +kernel) rfl
theorem tb_896 : (Jvm.Cond.code ({ cls := "FearLocks$Company", name := "circleOf", desc := "(II)I" } : Jvm.MethodName) prog_3_method_10_code (3 : Nat) (Option.some Jvm.ClassFile.FieldType.int)) ∈ fx_TB := fx_m4 176 (by decide +kernel) rfl
theorem tb_897 : (Jvm.Cond.methodLink "FearLocks$Company" (39 : Nat) ({ cls := "FearLocks$Company", name := "reached", desc := "([III)I" } : Jvm.MethodName)) ∈ fx_TB := fx_m4 177 (by decide +kernel) rfl
theorem tb_898 : (Jvm.Cond.static ({ cls := "FearLocks$Company", name := "reached", desc := "([III)I" } : Jvm.MethodName)) ∈ fx_TB := fx_m4 178 (by decide +kernel) rfl
theorem tb_899 : (Jvm.Cond.code ({ cls := "FearLocks$Company", name := "reached", desc := "([III)I" } : Jvm.MethodName) prog_3_method_3_code (5 : Nat) (Option.some Jvm.ClassFile.FieldType.int)) ∈ fx_TB := fx_m4 179 (by decide +kernel) rfl
theorem tb_900 : (Jvm.Cond.methodLink "FearLocks$Company" (22 : Nat) ({ cls := "FearLocks$Company", name := "beside", desc := "([II)I" } : Jvm.MethodName)) ∈ fx_TB := fx_m4 180 (by decide +kernel) rfl
theorem tb_901 : (Jvm.Cond.static ({ cls := "FearLocks$Company", name := "beside", desc := "([II)I" } : Jvm.MethodName)) ∈ fx_TB := fx_m4 181 (by decide +kernel) rfl
theorem tb_902 : (Jvm.Cond.code ({ cls := "FearLocks$Company", name := "beside", desc := "([II)I" } : Jvm.MethodName) prog_3_method_2_code (4 : Nat) (Option.some Jvm.ClassFile.FieldType.int)) ∈ fx_TB := fx_m4 182 (by decide +kernel) rfl
theorem tb_903 : (Jvm.Cond.methodLink "FearLocks" (218 : Nat) ({ cls := "FearLocks$Company", name := "circleOf", desc := "(II)I" } : Jvm.MethodName)) ∈ fx_TB := fx_m4 183 (by decide +kernel) rfl
theorem tb_904 : (Jvm.Cond.methodLink "FearLocksLaw" (86 : Nat) ({ cls := "FearLocks", name := "keystones", desc := "()I" } : Jvm.MethodName)) ∈ fx_TB := fx_m4 184 (by decide +kernel) rfl
theorem tb_905 : (Jvm.Cond.instanceMethod ({ cls := "FearLocks", name := "keystones", desc := "()I" } : Jvm.MethodName)) ∈ fx_TB := fx_m4 185 (by decide +kernel) rfl
theorem tb_906 : (Jvm.Cond.selects "FearLocks" ({ cls := "FearLocks", name := "keystones", desc := "()I" } : Jvm.MethodName) ({ cls := "FearLocks", name := "keystones", desc := "()I" } : Jvm.MethodName)) ∈ fx_TB := fx_m4 186 (by decide +kernel) rfl
theorem tb_907 : (Jvm.Cond.code ({ cls := "FearLocks", name := "keystones", desc := "()I" } : Jvm.MethodName) prog_1_method_20_code (1 : Nat) (Option.some Jvm.ClassFile.FieldType.int)) ∈ fx_TB := fx_m4 187 (by decide +kernel) rfl
theorem tb_908 : (Jvm.Cond.methodLink "FearLocks" (221 : Nat) ({ cls := "FearLocks$Company", name := "holdersTogether", desc := "(LFearLocks$City;)I" } : Jvm.MethodName)) ∈ fx_TB := fx_m4 188 (by decide +kernel) rfl
theorem tb_909 : (Jvm.Cond.static ({ cls := "FearLocks$Company", name := "holdersTogether", desc := "(LFearLocks$City;)I" } : Jvm.MethodName)) ∈ fx_TB := fx_m4 189 (by decide +kernel) rfl
theorem tb_910 : (Jvm.Cond.code ({ cls := "FearLocks$Company", name := "holdersTogether", desc := "(LFearLocks$City;)I" } : Jvm.MethodName) prog_3_method_4_code (6 : Nat) (Option.some Jvm.ClassFile.FieldType.int)) ∈ fx_TB := fx_m4 190 (by decide +kernel) rfl
theorem tb_911 : (Jvm.Cond.methodLink "FearLocksLaw" (90 : Nat) ({ cls := "FearLocks", name := "steps", desc := "(II)I" } : Jvm.MethodName)) ∈ fx_TB := fx_m4 191 (by decide +kernel) rfl
theorem tb_912 : (Jvm.Cond.instanceMethod ({ cls := "FearLocks", name := "steps", desc := "(II)I" } : Jvm.MethodName)) ∈ fx_TB := fx_m4 192 (by decide +kernel) rfl
theorem tb_913 : (Jvm.Cond.selects "FearLocks" ({ cls := "FearLocks", name := "steps", desc := "(II)I" } : Jvm.MethodName) ({ cls := "FearLocks", name := "steps", desc := "(II)I" } : Jvm.MethodName)) ∈ fx_TB := fx_m4 193 (by decide +kernel) rfl
theorem tb_914 : (Jvm.Cond.code ({ cls := "FearLocks", name := "steps", desc := "(II)I" } : Jvm.MethodName) prog_1_method_21_code (3 : Nat) (Option.some Jvm.ClassFile.FieldType.int)) ∈ fx_TB := fx_m4 194 (by decide +kernel) rfl
theorem tb_915 : (Jvm.Cond.methodLink "FearLocks" (224 : Nat) ({ cls := "FearLocks$Company", name := "stepsBetween", desc := "(LFearLocks$City;II)I" } : Jvm.MethodName)) ∈ fx_TB := fx_m4 195 (by decide +kernel) rfl
theorem tb_916 : (Jvm.Cond.static ({ cls := "FearLocks$Company", name := "stepsBetween", desc := "(LFearLocks$City;II)I" } : Jvm.MethodName)) ∈ fx_TB := fx_m4 196 (by decide +kernel) rfl
theorem tb_917 : (Jvm.Cond.code ({ cls := "FearLocks$Company", name := "stepsBetween", desc := "(LFearLocks$City;II)I" } : Jvm.MethodName) prog_3_method_5_code (5 : Nat) (Option.some Jvm.ClassFile.FieldType.int)) ∈ fx_TB := fx_m4 197 (by decide +kernel) rfl
theorem tb_918 : (Jvm.Cond.methodLink "FearLocksLaw" (94 : Nat) ({ cls := "FearLocks", name := "guess", desc := "(II)I" } : Jvm.MethodName)) ∈ fx_TB := fx_m4 198 (by decide +kernel) rfl
theorem tb_919 : (Jvm.Cond.instanceMethod ({ cls := "FearLocks", name := "guess", desc := "(II)I" } : Jvm.MethodName)) ∈ fx_TB := fx_m4 199 (by decide +kernel) rfl
theorem tb_920 : (Jvm.Cond.selects "FearLocks" ({ cls := "FearLocks", name := "guess", desc := "(II)I" } : Jvm.MethodName) ({ cls := "FearLocks", name := "guess", desc := "(II)I" } : Jvm.MethodName)) ∈ fx_TB := fx_m4 200 (by decide +kernel) rfl
theorem tb_921 : (Jvm.Cond.code ({ cls := "FearLocks", name := "guess", desc := "(II)I" } : Jvm.MethodName) prog_1_method_22_code (8 : Nat) (Option.some Jvm.ClassFile.FieldType.int)) ∈ fx_TB := fx_m4 201 (by decide +kernel) rfl
theorem tb_922 : (Jvm.Cond.methodLink "FearLocks" (227 : Nat) ({ cls := "FearLocks$Keys", name := "triesFit", desc := "(LFearLocks$Tape;LFearLocks$City;I)Z" } : Jvm.MethodName)) ∈ fx_TB := fx_m4 202 (by decide +kernel) rfl
theorem tb_923 : (Jvm.Cond.static ({ cls := "FearLocks$Keys", name := "triesFit", desc := "(LFearLocks$Tape;LFearLocks$City;I)Z" } : Jvm.MethodName)) ∈ fx_TB := fx_m4 203 (by decide +kernel) rfl
theorem tb_924 : (Jvm.Cond.code ({ cls := "FearLocks$Keys", name := "triesFit", desc := "(LFearLocks$Tape;LFearLocks$City;I)Z" } : Jvm.MethodName) prog_5_method_6_code (4 : Nat) (Option.some Jvm.ClassFile.FieldType.boolean)) ∈ fx_TB := fx_m4 204 (by decide +kernel) rfl
theorem tb_925 : (Jvm.Cond.methodLink "FearLocks$Keys" (65 : Nat) ({ cls := "FearLocks$Tape", name := "byteAt", desc := "(I)I" } : Jvm.MethodName)) ∈ fx_TB := fx_m4 205 (by decide +kernel) rfl
theorem tb_926 : (Jvm.Cond.instanceMethod ({ cls := "FearLocks$Tape", name := "byteAt", desc := "(I)I" } : Jvm.MethodName)) ∈ fx_TB := fx_m4 206 (by decide +kernel) rfl
theorem tb_927 : (Jvm.Cond.selects "FearLocks$Tape" ({ cls := "FearLocks$Tape", name := "byteAt", desc := "(I)I" } : Jvm.MethodName) ({ cls := "FearLocks$Tape", name := "byteAt", desc := "(I)I" } : Jvm.MethodName)) ∈ fx_TB := fx_m4 207 (by decide +kernel) rfl
theorem tb_928 : (Jvm.Cond.code ({ cls := "FearLocks$Tape", name := "byteAt", desc := "(I)I" } : Jvm.MethodName) prog_12_method_5_code (2 : Nat) (Option.some Jvm.ClassFile.FieldType.int)) ∈ fx_TB := fx_m4 208 (by decide +kernel) rfl
theorem tb_929 : (Jvm.Cond.methodLink "FearLocks$Keys" (70 : Nat) ({ cls := "FearLocks$City", name := "isPerson", desc := "(I)Z" } : Jvm.MethodName)) ∈ fx_TB := fx_m4 209 (by decide +kernel) rfl
theorem tb_930 : (Jvm.Cond.methodLink "FearLocks" (231 : Nat) ({ cls := "FearLocks$Keys", name := "possibleFears", desc := "(LFearLocks$Tape;LFearLocks$City;I)I" } : Jvm.MethodName)) ∈ fx_TB := fx_m4 210 (by decide +kernel) rfl
theorem tb_931 : (Jvm.Cond.static ({ cls := "FearLocks$Keys", name := "possibleFears", desc := "(LFearLocks$Tape;LFearLocks$City;I)I" } : Jvm.MethodName)) ∈ fx_TB := fx_m4 211 (by decide +kernel) rfl
theorem tb_932 : (Jvm.Cond.code ({ cls := "FearLocks$Keys", name := "possibleFears", desc := "(LFearLocks$Tape;LFearLocks$City;I)I" } : Jvm.MethodName) prog_5_method_7_code (5 : Nat) (Option.some Jvm.ClassFile.FieldType.int)) ∈ fx_TB := fx_m4 212 (by decide +kernel) rfl
theorem tb_933 : (Jvm.Cond.methodLink "FearLocks$Keys" (73 : Nat) ({ cls := "FearLocks$Keys", name := "leastStrength", desc := "(LFearLocks$Tape;LFearLocks$City;II)I" } : Jvm.MethodName)) ∈ fx_TB := fx_m4 213 (by decide +kernel) rfl
theorem tb_934 : (Jvm.Cond.static ({ cls := "FearLocks$Keys", name := "leastStrength", desc := "(LFearLocks$Tape;LFearLocks$City;II)I" } : Jvm.MethodName)) ∈ fx_TB := fx_m4 214 (by decide +kernel) rfl
theorem tb_935 : (Jvm.Cond.code ({ cls := "FearLocks$Keys", name := "leastStrength", desc := "(LFearLocks$Tape;LFearLocks$City;II)I" } : Jvm.MethodName) prog_5_method_8_code (7 : Nat) (Option.some Jvm.ClassFile.FieldType.int)) ∈ fx_TB := fx_m4 215 (by decide +kernel) rfl
theorem tb_936 : (Jvm.Cond.methodLink "FearLocks$Keys" (80 : Nat) ({ cls := "FearLocks$City", name := "fearOf", desc := "(I)I" } : Jvm.MethodName)) ∈ fx_TB := fx_m4 216 (by decide +kernel) rfl
theorem tb_937 : (Jvm.Cond.methodLink "FearLocks$Keys" (77 : Nat) ({ cls := "FearLocks$Keys", name := "greatestStrength", desc := "(LFearLocks$Tape;LFearLocks$City;II)I" } : Jvm.MethodName)) ∈ fx_TB := fx_m4 217 (by decide +kernel) rfl
theorem tb_938 : (Jvm.Cond.static ({ cls := "FearLocks$Keys", name := "greatestStrength", desc := "(LFearLocks$Tape;LFearLocks$City;II)I" } : Jvm.MethodName)) ∈ fx_TB := fx_m4 218 (by decide +kernel) rfl
theorem tb_939 : (Jvm.Cond.code ({ cls := "FearLocks$Keys", name := "greatestStrength", desc := "(LFearLocks$Tape;LFearLocks$City;II)I" } : Jvm.MethodName) prog_5_method_9_code (8 : Nat) (Option.some Jvm.ClassFile.FieldType.int)) ∈ fx_TB := fx_m4 219 (by decide +kernel) rfl
theorem tb_940 : (Jvm.Cond.methodLink "FearLocks" (235 : Nat) ({ cls := "FearLocks$Keys", name := "leastStrength", desc := "(LFearLocks$Tape;LFearLocks$City;II)I" } : Jvm.MethodName)) ∈ fx_TB := fx_m4 220 (by decide +kernel) rfl
theorem tb_941 : (Jvm.Cond.methodLink "FearLocks" (239 : Nat) ({ cls := "FearLocks$Keys", name := "greatestStrength", desc := "(LFearLocks$Tape;LFearLocks$City;II)I" } : Jvm.MethodName)) ∈ fx_TB := fx_m4 221 (by decide +kernel) rfl
theorem tb_942 : (Jvm.Cond.methodLink "FearLocksLaw" (98 : Nat) ({ cls := "FearLocks", name := "sentNext", desc := "(II)I" } : Jvm.MethodName)) ∈ fx_TB := fx_m4 222 (by decide +kernel) rfl
theorem tb_943 : (Jvm.Cond.instanceMethod ({ cls := "FearLocks", name := "sentNext", desc := "(II)I" } : Jvm.MethodName)) ∈ fx_TB := fx_m4 223 (by decide +kernel) rfl
theorem tb_944 : (Jvm.Cond.selects "FearLocks" ({ cls := "FearLocks", name := "sentNext", desc := "(II)I" } : Jvm.MethodName) ({ cls := "FearLocks", name := "sentNext", desc := "(II)I" } : Jvm.MethodName)) ∈ fx_TB := fx_m4 224 (by decide +kernel) rfl
theorem tb_945 : (Jvm.Cond.code ({ cls := "FearLocks", name := "sentNext", desc := "(II)I" } : Jvm.MethodName) prog_1_method_23_code (4 : Nat) (Option.some Jvm.ClassFile.FieldType.int)) ∈ fx_TB := fx_m4 225 (by decide +kernel) rfl
theorem tb_946 : (Jvm.Cond.constant "FearLocks" (242 : Nat) (65535 : Int32)) ∈ fx_TB := fx_m4 226 (by decide +kernel) rfl
theorem tb_947 : (Jvm.Cond.methodLink "FearLocks" (243 : Nat) ({ cls := "FearLocks$Keys", name := "bestToSend", desc := "(LFearLocks$City;I)I" } : Jvm.MethodName)) ∈ fx_TB := fx_m4 227 (by decide +kernel) rfl
theorem tb_948 : (Jvm.Cond.static ({ cls := "FearLocks$Keys", name := "bestToSend", desc := "(LFearLocks$City;I)I" } : Jvm.MethodName)) ∈ fx_TB := fx_m4 228 (by decide +kernel) rfl
theorem tb_949 : (Jvm.Cond.code ({ cls := "FearLocks$Keys", name := "bestToSend", desc := "(LFearLocks$City;I)I" } : Jvm.MethodName) prog_5_method_10_code (5 : Nat) (Option.some Jvm.ClassFile.FieldType.int)) ∈ fx_TB := fx_m4 229 (by decide +kernel) rfl
theorem tb_950 : (Jvm.Cond.methodLink "FearLocks$Keys" (83 : Nat) ({ cls := "FearLocks$Keys", name := "leftAtWorst", desc := "(LFearLocks$City;II)I" } : Jvm.MethodName)) ∈ fx_TB := fx_m4 230 (by decide +kernel) rfl
theorem tb_951 : (Jvm.Cond.static ({ cls := "FearLocks$Keys", name := "leftAtWorst", desc := "(LFearLocks$City;II)I" } : Jvm.MethodName)) ∈ fx_TB := fx_m4 231 (by decide +kernel) rfl
theorem tb_952 : (Jvm.Cond.code ({ cls := "FearLocks$Keys", name := "leftAtWorst", desc := "(LFearLocks$City;II)I" } : Jvm.MethodName) prog_5_method_11_code (4 : Nat) (Option.some Jvm.ClassFile.FieldType.int)) ∈ fx_TB := fx_m4 232 (by decide +kernel) rfl
theorem tb_953 : (Jvm.Cond.methodLink "FearLocks" (246 : Nat) ({ cls := "FearLocks$Keys", name := "leftAtWorst", desc := "(LFearLocks$City;II)I" } : Jvm.MethodName)) ∈ fx_TB := fx_m4 233 (by decide +kernel) rfl
theorem tb_954 : (Jvm.Cond.methodLink "FearLocksLaw" (102 : Nat) ({ cls := "FearLocks", name := "guards", desc := "(I)I" } : Jvm.MethodName)) ∈ fx_TB := fx_m4 234 (by decide +kernel) rfl
theorem tb_955 : (Jvm.Cond.instanceMethod ({ cls := "FearLocks", name := "guards", desc := "(I)I" } : Jvm.MethodName)) ∈ fx_TB := fx_m4 235 (by decide +kernel) rfl
theorem tb_956 : (Jvm.Cond.selects "FearLocks" ({ cls := "FearLocks", name := "guards", desc := "(I)I" } : Jvm.MethodName) ({ cls := "FearLocks", name := "guards", desc := "(I)I" } : Jvm.MethodName)) ∈ fx_TB := fx_m4 236 (by decide +kernel) rfl
theorem tb_957 : (Jvm.Cond.code ({ cls := "FearLocks", name := "guards", desc := "(I)I" } : Jvm.MethodName) prog_1_method_24_code (2 : Nat) (Option.some Jvm.ClassFile.FieldType.int)) ∈ fx_TB := fx_m4 237 (by decide +kernel) rfl
theorem tb_958 : (Jvm.Cond.methodLink "FearLocks" (249 : Nat) ({ cls := "FearLocks$Pastimes", name := "waysToStand", desc := "(LFearLocks$Tape;LFearLocks$City;I)I" } : Jvm.MethodName)) ∈ fx_TB := fx_m4 238 (by decide +kernel) rfl
theorem tb_959 : (Jvm.Cond.instanceMethod ({ cls := "FearLocks$Pastimes", name := "waysToStand", desc := "(LFearLocks$Tape;LFearLocks$City;I)I" } : Jvm.MethodName)) ∈ fx_TB := fx_m4 239 (by decide +kernel) rfl
theorem tb_960 : (Jvm.Cond.selects "FearLocks$Pastimes" ({ cls := "FearLocks$Pastimes", name := "waysToStand", desc := "(LFearLocks$Tape;LFearLocks$City;I)I" } : Jvm.MethodName) ({ cls := "FearLocks$Pastimes", name := "waysToStand", desc := "(LFearLocks$Tape;LFearLocks$City;I)I" } : Jvm.MethodName)) ∈ fx_TB := fx_m5 0 (by decide +kernel) rfl
theorem tb_961 : (Jvm.Cond.code ({ cls := "FearLocks$Pastimes", name := "waysToStand", desc := "(LFearLocks$Tape;LFearLocks$City;I)I" } : Jvm.MethodName) prog_11_method_2_code (7 : Nat) (Option.some Jvm.ClassFile.FieldType.int)) ∈ fx_TB := fx_m5 1 (by decide +kernel) rfl
theorem tb_962 : (Jvm.Cond.methodLink "FearLocks$Pastimes" (19 : Nat) ({ cls := "FearLocks$Tape", name := "byteAt", desc := "(I)I" } : Jvm.MethodName)) ∈ fx_TB := fx_m5 2 (by decide +kernel) rfl
theorem tb_963 : (Jvm.Cond.methodLink "FearLocks$Pastimes" (25 : Nat) ({ cls := "FearLocks$City", name := "isPerson", desc := "(I)Z" } : Jvm.MethodName)) ∈ fx_TB := fx_m5 3 (by decide +kernel) rfl
theorem tb_964 : (Jvm.Cond.methodLinkNest "FearLocks$Pastimes" (31 : Nat) ({ cls := "FearLocks", name := "has", desc := "(II)Z" } : Jvm.MethodName) "FearLocks") ∈ fx_NW := fx_n5 4 (by decide +kernel) rfl
theorem tb_965 : (Jvm.Cond.methodLink "FearLocks$Pastimes" (35 : Nat) ({ cls := "FearLocks$City", name := "fearOf", desc := "(I)I" } : Jvm.MethodName)) ∈ fx_TB := fx_m5 5 (by decide +kernel) rfl
theorem tb_966 : (Jvm.Cond.methodLink "FearLocks$Pastimes" (38 : Nat) ({ cls := "FearLocks$Pastimes", name := "waysOn", desc := "([IIIII)I" } : Jvm.MethodName)) ∈ fx_TB := fx_m5 6 (by decide +kernel) rfl
theorem tb_967 : (Jvm.Cond.static ({ cls := "FearLocks$Pastimes", name := "waysOn", desc := "([IIIII)I" } : Jvm.MethodName)) ∈ fx_TB := fx_m5 7 (by decide +kernel) rfl
theorem tb_968 : (Jvm.Cond.code ({ cls := "FearLocks$Pastimes", name := "waysOn", desc := "([IIIII)I" } : Jvm.MethodName) prog_11_method_3_code (7 : Nat) (Option.some Jvm.ClassFile.FieldType.int)) ∈ fx_TB := fx_m5 8 (by decide +kernel) rfl
theorem tb_969 : (Jvm.Cond.methodLink "FearLocks$Pastimes" (42 : Nat) ({ cls := "java/lang/Integer", name := "bitCount", desc := "(I)I" } : Jvm.MethodName)) ∈ fx_TB := fx_m5 9 (by decide +kernel) rfl
theorem tb_970 : (Jvm.Cond.methodLink "FearLocks$Pastimes" (47 : Nat) ({ cls := "FearLocks$Pastimes", name := "canStandTogether", desc := "([III)Z" } : Jvm.MethodName)) ∈ fx_TB := fx_m5 10 (by decide +kernel) rfl
theorem tb_971 : (Jvm.Cond.static ({ cls := "FearLocks$Pastimes", name := "canStandTogether", desc := "([III)Z" } : Jvm.MethodName)) ∈ fx_TB := fx_m5 11 (by decide +kernel) rfl
theorem tb_972 : (Jvm.Cond.code ({ cls := "FearLocks$Pastimes", name := "canStandTogether", desc := "([III)Z" } : Jvm.MethodName) prog_11_method_4_code (3 : Nat) (Option.some Jvm.ClassFile.FieldType.boolean)) ∈ fx_TB := fx_m5 12 (by decide +kernel) rfl
theorem tb_973 : (Jvm.Cond.methodLink "FearLocksLaw" (106 : Nat) ({ cls := "FearLocks", name := "word", desc := "(III)J" } : Jvm.MethodName)) ∈ fx_TB := fx_m5 13 (by decide +kernel) rfl
theorem tb_974 : (Jvm.Cond.instanceMethod ({ cls := "FearLocks", name := "word", desc := "(III)J" } : Jvm.MethodName)) ∈ fx_TB := fx_m5 14 (by decide +kernel) rfl
theorem tb_975 : (Jvm.Cond.selects "FearLocks" ({ cls := "FearLocks", name := "word", desc := "(III)J" } : Jvm.MethodName) ({ cls := "FearLocks", name := "word", desc := "(III)J" } : Jvm.MethodName)) ∈ fx_TB := fx_m5 15 (by decide +kernel) rfl
theorem tb_976 : (Jvm.Cond.code ({ cls := "FearLocks", name := "word", desc := "(III)J" } : Jvm.MethodName) prog_1_method_25_code (4 : Nat) (Option.some Jvm.ClassFile.FieldType.long)) ∈ fx_TB := fx_m5 16 (by decide +kernel) rfl
theorem tb_977 : (Jvm.Cond.constantLong "FearLocks" (252 : Nat) (-1 : Int64)) ∈ fx_TB := fx_m5 17 (by decide +kernel) rfl
theorem tb_978 : (Jvm.Cond.methodLink "FearLocks" (254 : Nat) ({ cls := "FearLocks$Pastimes", name := "wordsWeighing", desc := "(III)J" } : Jvm.MethodName)) ∈ fx_TB := fx_m5 18 (by decide +kernel) rfl
theorem tb_979 : (Jvm.Cond.instanceMethod ({ cls := "FearLocks$Pastimes", name := "wordsWeighing", desc := "(III)J" } : Jvm.MethodName)) ∈ fx_TB := fx_m5 19 (by decide +kernel) rfl
theorem tb_980 : (Jvm.Cond.selects "FearLocks$Pastimes" ({ cls := "FearLocks$Pastimes", name := "wordsWeighing", desc := "(III)J" } : Jvm.MethodName) ({ cls := "FearLocks$Pastimes", name := "wordsWeighing", desc := "(III)J" } : Jvm.MethodName)) ∈ fx_TB := fx_m5 20 (by decide +kernel) rfl
theorem tb_981 : (Jvm.Cond.code ({ cls := "FearLocks$Pastimes", name := "wordsWeighing", desc := "(III)J" } : Jvm.MethodName) prog_11_method_5_code (6 : Nat) (Option.some Jvm.ClassFile.FieldType.long)) ∈ fx_TB := fx_m5 21 (by decide +kernel) rfl
theorem tb_982 : (Jvm.Cond.methodLink "FearLocks$Pastimes" (51 : Nat) ({ cls := "FearLocks$Pastimes", name := "wordsWithOneMore", desc := "(II)J" } : Jvm.MethodName)) ∈ fx_TB := fx_m5 22 (by decide +kernel) rfl
theorem tb_984 : (Jvm.Cond.instanceMethod ({ cls := "FearLocks$Pastimes", name := "wordsWithOneMore", desc := "(II)J" } : Jvm.MethodName)) ∈ fx_TB := fx_m5 24 (by decide +kernel) rfl
theorem tb_985 : (Jvm.Cond.code ({ cls := "FearLocks$Pastimes", name := "wordsWithOneMore", desc := "(II)J" } : Jvm.MethodName) prog_11_method_6_code (7 : Nat) (Option.some Jvm.ClassFile.FieldType.long)) ∈ fx_TB := fx_m5 25 (by decide +kernel) rfl
theorem tb_986 : (Jvm.Cond.methodLink "FearLocksLaw" (111 : Nat) ({ cls := "FearLocks", name := "rooms", desc := "(II)I" } : Jvm.MethodName)) ∈ fx_TB := fx_m5 26 (by decide +kernel) rfl
theorem tb_987 : (Jvm.Cond.instanceMethod ({ cls := "FearLocks", name := "rooms", desc := "(II)I" } : Jvm.MethodName)) ∈ fx_TB := fx_m5 27 (by decide +kernel) rfl
theorem tb_988 : (Jvm.Cond.selects "FearLocks" ({ cls := "FearLocks", name := "rooms", desc := "(II)I" } : Jvm.MethodName) ({ cls := "FearLocks", name := "rooms", desc := "(II)I" } : Jvm.MethodName)) ∈ fx_TB := fx_m5 28 (by decide +kernel) rfl
theorem tb_989 : (Jvm.Cond.code ({ cls := "FearLocks", name := "rooms", desc := "(II)I" } : Jvm.MethodName) prog_1_method_26_code (4 : Nat) (Option.some Jvm.ClassFile.FieldType.int)) ∈ fx_TB := fx_m5 29 (by decide +kernel) rfl
theorem tb_990 : (Jvm.Cond.methodLink "FearLocks" (258 : Nat) ({ cls := "FearLocks$Tape", name := "byteAt", desc := "(I)I" } : Jvm.MethodName)) ∈ fx_TB := fx_m5 30 (by decide +kernel) rfl
theorem tb_991 : (Jvm.Cond.methodLink "FearLocks" (261 : Nat) ({ cls := "FearLocks$Pastimes", name := "leastDreadBehindRooms", desc := "(LFearLocks$Tape;II)I" } : Jvm.MethodName)) ∈ fx_TB := fx_m5 31 (by decide +kernel) rfl
theorem tb_992 : (Jvm.Cond.static ({ cls := "FearLocks$Pastimes", name := "leastDreadBehindRooms", desc := "(LFearLocks$Tape;II)I" } : Jvm.MethodName)) ∈ fx_TB := fx_m5 32 (by decide +kernel) rfl
theorem tb_993 : (Jvm.Cond.code ({ cls := "FearLocks$Pastimes", name := "leastDreadBehindRooms", desc := "(LFearLocks$Tape;II)I" } : Jvm.MethodName) prog_11_method_7_code (6 : Nat) (Option.some Jvm.ClassFile.FieldType.int)) ∈ fx_TB := fx_m5 33 (by decide +kernel) rfl
theorem tb_994 : (Jvm.Cond.methodLink "FearLocks$Pastimes" (55 : Nat) ({ cls := "FearLocks$Pastimes", name := "roomsOfCommonest", desc := "(LFearLocks$Tape;I)I" } : Jvm.MethodName)) ∈ fx_TB := fx_m5 34 (by decide +kernel) rfl
theorem tb_995 : (Jvm.Cond.static ({ cls := "FearLocks$Pastimes", name := "roomsOfCommonest", desc := "(LFearLocks$Tape;I)I" } : Jvm.MethodName)) ∈ fx_TB := fx_m5 35 (by decide +kernel) rfl
theorem tb_996 : (Jvm.Cond.code ({ cls := "FearLocks$Pastimes", name := "roomsOfCommonest", desc := "(LFearLocks$Tape;I)I" } : Jvm.MethodName) prog_11_method_8_code (6 : Nat) (Option.some Jvm.ClassFile.FieldType.int)) ∈ fx_TB := fx_m5 36 (by decide +kernel) rfl
theorem tb_997 : (Jvm.Cond.methodLink "FearLocks$Pastimes" (59 : Nat) ({ cls := "java/lang/Math", name := "max", desc := "(II)I" } : Jvm.MethodName)) ∈ fx_TB := fx_m5 37 (by decide +kernel) rfl
theorem tb_998 : (Jvm.Cond.methodLinkNest "FearLocks$Pastimes" (65 : Nat) ({ cls := "FearLocks", name := "bounded", desc := "(III)I" } : Jvm.MethodName) "FearLocks") ∈ fx_NW := fx_n5 38 (by decide +kernel) rfl
theorem tb_999 : (Jvm.Cond.methodLink "FearLocksLaw" (115 : Nat) ({ cls := "FearLocks", name := "seed", desc := "(I)Z" } : Jvm.MethodName)) ∈ fx_TB := fx_m5 39 (by decide +kernel) rfl
theorem tb_1000 : (Jvm.Cond.instanceMethod ({ cls := "FearLocks", name := "seed", desc := "(I)Z" } : Jvm.MethodName)) ∈ fx_TB := fx_m5 40 (by decide +kernel) rfl
theorem tb_1001 : (Jvm.Cond.selects "FearLocks" ({ cls := "FearLocks", name := "seed", desc := "(I)Z" } : Jvm.MethodName) ({ cls := "FearLocks", name := "seed", desc := "(I)Z" } : Jvm.MethodName)) ∈ fx_TB := fx_m5 41 (by decide +kernel) rfl
theorem tb_1002 : (Jvm.Cond.code ({ cls := "FearLocks", name := "seed", desc := "(I)Z" } : Jvm.MethodName) prog_1_method_27_code (2 : Nat) (Option.some Jvm.ClassFile.FieldType.boolean)) ∈ fx_TB := fx_m5 42 (by decide +kernel) rfl
theorem tb_1003 : (Jvm.Cond.methodLink "FearLocksLaw" (120 : Nat) ({ cls := "FearLocks", name := "keep", desc := "()I" } : Jvm.MethodName)) ∈ fx_TB := fx_m5 43 (by decide +kernel) rfl
theorem tb_1004 : (Jvm.Cond.instanceMethod ({ cls := "FearLocks", name := "keep", desc := "()I" } : Jvm.MethodName)) ∈ fx_TB := fx_m5 44 (by decide +kernel) rfl
theorem tb_1005 : (Jvm.Cond.selects "FearLocks" ({ cls := "FearLocks", name := "keep", desc := "()I" } : Jvm.MethodName) ({ cls := "FearLocks", name := "keep", desc := "()I" } : Jvm.MethodName)) ∈ fx_TB := fx_m5 45 (by decide +kernel) rfl
theorem tb_1006 : (Jvm.Cond.code ({ cls := "FearLocks", name := "keep", desc := "()I" } : Jvm.MethodName) prog_1_method_28_code (1 : Nat) (Option.some Jvm.ClassFile.FieldType.int)) ∈ fx_TB := fx_m5 46 (by decide +kernel) rfl
theorem tb_1007 : (Jvm.Cond.methodLink "FearLocksLaw" (124 : Nat) ({ cls := "FearLocks", name := "undo", desc := "()Z" } : Jvm.MethodName)) ∈ fx_TB := fx_m5 47 (by decide +kernel) rfl
theorem tb_1008 : (Jvm.Cond.instanceMethod ({ cls := "FearLocks", name := "undo", desc := "()Z" } : Jvm.MethodName)) ∈ fx_TB := fx_m5 48 (by decide +kernel) rfl
theorem tb_1009 : (Jvm.Cond.selects "FearLocks" ({ cls := "FearLocks", name := "undo", desc := "()Z" } : Jvm.MethodName) ({ cls := "FearLocks", name := "undo", desc := "()Z" } : Jvm.MethodName)) ∈ fx_TB := fx_m5 49 (by decide +kernel) rfl
theorem tb_1010 : (Jvm.Cond.code ({ cls := "FearLocks", name := "undo", desc := "()Z" } : Jvm.MethodName) prog_1_method_29_code (1 : Nat) (Option.some Jvm.ClassFile.FieldType.boolean)) ∈ fx_TB := fx_m5 50 (by decide +kernel) rfl
theorem tb_1011 : (Jvm.Cond.methodLink "FearLocks" (271 : Nat) ({ cls := "FearLocks$City", name := "goBackTo", desc := "(LFearLocks$City;)V" } : Jvm.MethodName)) ∈ fx_TB := fx_m5 51 (by decide +kernel) rfl
theorem tb_1012 : (Jvm.Cond.instanceMethod ({ cls := "FearLocks$City", name := "goBackTo", desc := "(LFearLocks$City;)V" } : Jvm.MethodName)) ∈ fx_TB := fx_m5 52 (by decide +kernel) rfl
theorem tb_1013 : (Jvm.Cond.selects "FearLocks$City" ({ cls := "FearLocks$City", name := "goBackTo", desc := "(LFearLocks$City;)V" } : Jvm.MethodName) ({ cls := "FearLocks$City", name := "goBackTo", desc := "(LFearLocks$City;)V" } : Jvm.MethodName)) ∈ fx_TB := fx_m5 53 (by decide +kernel) rfl
theorem tb_1014 : (Jvm.Cond.code ({ cls := "FearLocks$City", name := "goBackTo", desc := "(LFearLocks$City;)V" } : Jvm.MethodName) prog_2_method_26_code (3 : Nat) (Option.none : Option Jvm.ClassFile.FieldType)) ∈ fx_TB := fx_m5 54 (by decide +kernel) rfl
theorem tb_1015 : (Jvm.Cond.methodLink "FearLocksLaw" (129 : Nat) ({ cls := "FearLocks", name := "check", desc := "(I)I" } : Jvm.MethodName)) ∈ fx_TB := fx_m5 55 (by decide +kernel) rfl
theorem tb_1016 : (Jvm.Cond.instanceMethod ({ cls := "FearLocks", name := "check", desc := "(I)I" } : Jvm.MethodName)) ∈ fx_TB := fx_m5 56 (by decide +kernel) rfl
theorem tb_1017 : (Jvm.Cond.selects "FearLocks" ({ cls := "FearLocks", name := "check", desc := "(I)I" } : Jvm.MethodName) ({ cls := "FearLocks", name := "check", desc := "(I)I" } : Jvm.MethodName)) ∈ fx_TB := fx_m5 57 (by decide +kernel) rfl
theorem tb_1018 : (Jvm.Cond.code ({ cls := "FearLocks", name := "check", desc := "(I)I" } : Jvm.MethodName) prog_1_method_30_code (4 : Nat) (Option.some Jvm.ClassFile.FieldType.int)) ∈ fx_TB := fx_m5 58 (by decide +kernel) rfl
theorem tb_1019 : (Jvm.Cond.methodLink "FearLocksLaw" (133 : Nat) ({ cls := "FearLocks", name := "count", desc := "(I)I" } : Jvm.MethodName)) ∈ fx_TB := fx_m5 59 (by decide +kernel) rfl
theorem tb_1020 : (Jvm.Cond.instanceMethod ({ cls := "FearLocks", name := "count", desc := "(I)I" } : Jvm.MethodName)) ∈ fx_TB := fx_m5 60 (by decide +kernel) rfl
theorem tb_1021 : (Jvm.Cond.selects "FearLocks" ({ cls := "FearLocks", name := "count", desc := "(I)I" } : Jvm.MethodName) ({ cls := "FearLocks", name := "count", desc := "(I)I" } : Jvm.MethodName)) ∈ fx_TB := fx_m5 61 (by decide +kernel) rfl
theorem tb_1022 : (Jvm.Cond.code ({ cls := "FearLocks", name := "count", desc := "(I)I" } : Jvm.MethodName) prog_1_method_31_code (2 : Nat) (Option.some Jvm.ClassFile.FieldType.int)) ∈ fx_TB := fx_m5 62 (by decide +kernel) rfl
theorem tb_1023 : (Jvm.Cond.methodLink "FearLocks" (277 : Nat) ({ cls := "FearLocks$City", name := "acquaintances", desc := "()I" } : Jvm.MethodName)) ∈ fx_TB := fx_m5 63 (by decide +kernel) rfl
theorem tb_1024 : (Jvm.Cond.instanceMethod ({ cls := "FearLocks$City", name := "acquaintances", desc := "()I" } : Jvm.MethodName)) ∈ fx_TB := fx_m5 64 (by decide +kernel) rfl
theorem tb_1025 : (Jvm.Cond.selects "FearLocks$City" ({ cls := "FearLocks$City", name := "acquaintances", desc := "()I" } : Jvm.MethodName) ({ cls := "FearLocks$City", name := "acquaintances", desc := "()I" } : Jvm.MethodName)) ∈ fx_TB := fx_m5 65 (by decide +kernel) rfl
theorem tb_1026 : (Jvm.Cond.code ({ cls := "FearLocks$City", name := "acquaintances", desc := "()I" } : Jvm.MethodName) prog_2_method_15_code (3 : Nat) (Option.some Jvm.ClassFile.FieldType.int)) ∈ fx_TB := fx_m5 66 (by decide +kernel) rfl
theorem tb_1027 : (Jvm.Cond.methodLink "FearLocks$City" (74 : Nat) ({ cls := "java/lang/Integer", name := "bitCount", desc := "(I)I" } : Jvm.MethodName)) ∈ fx_TB := fx_m5 67 (by decide +kernel) rfl
theorem tb_1028 : (Jvm.Cond.methodLink "FearLocks" (280 : Nat) ({ cls := "FearLocks$City", name := "openedInAll", desc := "()I" } : Jvm.MethodName)) ∈ fx_TB := fx_m5 68 (by decide +kernel) rfl
theorem tb_1029 : (Jvm.Cond.instanceMethod ({ cls := "FearLocks$City", name := "openedInAll", desc := "()I" } : Jvm.MethodName)) ∈ fx_TB := fx_m5 69 (by decide +kernel) rfl
theorem tb_1030 : (Jvm.Cond.selects "FearLocks$City" ({ cls := "FearLocks$City", name := "openedInAll", desc := "()I" } : Jvm.MethodName) ({ cls := "FearLocks$City", name := "openedInAll", desc := "()I" } : Jvm.MethodName)) ∈ fx_TB := fx_m5 70 (by decide +kernel) rfl
theorem tb_1031 : (Jvm.Cond.code ({ cls := "FearLocks$City", name := "openedInAll", desc := "()I" } : Jvm.MethodName) prog_2_method_22_code (3 : Nat) (Option.some Jvm.ClassFile.FieldType.int)) ∈ fx_TB := fx_m5 71 (by decide +kernel) rfl
theorem tb_1032 : (Jvm.Cond.classLink "FearLocksLaw" (10 : Nat) "FearLocksModel") ∈ fx_TB := fx_m5 72 (by decide +kernel) rfl
theorem tb_1033 : (Jvm.Cond.instantiable "FearLocksModel" (52 : Nat)) ∈ fx_TB := fx_m5 73 (by decide +kernel) rfl
theorem tb_1034 : (Jvm.Cond.methodLink "FearLocksLaw" (12 : Nat) ({ cls := "FearLocksModel", name := "<init>", desc := "()V" } : Jvm.MethodName)) ∈ fx_TB := fx_m5 74 (by decide +kernel) rfl
theorem tb_1035 : (Jvm.Cond.instanceMethod ({ cls := "FearLocksModel", name := "<init>", desc := "()V" } : Jvm.MethodName)) ∈ fx_TB := fx_m5 75 (by decide +kernel) rfl
theorem tb_1036 : (Jvm.Cond.code ({ cls := "FearLocksModel", name := "<init>", desc := "()V" } : Jvm.MethodName) prog_14_method_1_code (1 : Nat) (Option.none : Option Jvm.ClassFile.FieldType)) ∈ fx_TB := fx_m5 76 (by decide +kernel) rfl
theorem tb_1037 : (Jvm.Cond.methodLink "FearLocksModel" (1 : Nat) ({ cls := "java/lang/Object", name := "<init>", desc := "()V" } : Jvm.MethodName)) ∈ fx_TB := fx_m5 77 (by decide +kernel) rfl
theorem tb_1038 : (Jvm.Cond.constant "FearLocksModel" (106 : Nat) (49152 : Int32)) ∈ fx_TB := fx_m5 78 (by decide +kernel) rfl
theorem tb_1039 : (Jvm.Cond.fieldLink "FearLocksModel" (7 : Nat) "FearLocksModel" "now" "[I") ∈ fx_TB := fx_m5 79 (by decide +kernel) rfl
theorem tb_1040 : (Jvm.Cond.fieldLink "FearLocksModel" (13 : Nat) "FearLocksModel" "aside" "[I") ∈ fx_TB := fx_m5 80 (by decide +kernel) rfl
theorem tb_1041 : (Jvm.Cond.fieldLink "FearLocksModel" (16 : Nat) "FearLocksModel" "kept" "[I") ∈ fx_TB := fx_m5 81 (by decide +kernel) rfl
theorem tb_1042 : (Jvm.Cond.fieldLink "FearLocksModel" (19 : Nat) "FearLocksModel" "knownOf" "[I") ∈ fx_TB := fx_m5 82 (by decide +kernel) rfl
theorem tb_1043 : (Jvm.Cond.fieldLink "FearLocksModel" (22 : Nat) "FearLocksModel" "wasKnown" "[I") ∈ fx_TB := fx_m5 83 (by decide +kernel) rfl
theorem tb_1044 : (Jvm.Cond.fieldLink "FearLocksModel" (25 : Nat) "FearLocksModel" "fearAt" "[I") ∈ fx_TB := fx_m5 84 (by decide +kernel) rfl
theorem tb_1045 : (Jvm.Cond.fieldLink "FearLocksModel" (28 : Nat) "FearLocksModel" "strengthAt" "[I") ∈ fx_TB := fx_m5 85 (by decide +kernel) rfl
theorem tb_1046 : (Jvm.Cond.fieldLink "FearLocksModel" (31 : Nat) "FearLocksModel" "wasFear" "[I") ∈ fx_TB := fx_m5 86 (by decide +kernel) rfl
theorem tb_1047 : (Jvm.Cond.fieldLink "FearLocksModel" (34 : Nat) "FearLocksModel" "wasStrength" "[I") ∈ fx_TB := fx_m5 87 (by decide +kernel) rfl
theorem tb_1048 : (Jvm.Cond.fieldLink "FearLocksModel" (121 : Nat) "FearLocksModel" "toldPeople" "I") ∈ fx_TB := fx_m5 88 (by decide +kernel) rfl
theorem tb_1049 : (Jvm.Cond.fieldLink "FearLocksModel" (129 : Nat) "FearLocksModel" "toldDoors" "I") ∈ fx_TB := fx_m5 89 (by decide +kernel) rfl
theorem tb_1050 : (Jvm.Cond.fieldLink "FearLocksModel" (296 : Nat) "FearLocksModel" "wasDoors" "I") ∈ fx_TB := fx_m5 90 (by decide +kernel) rfl
theorem tb_1051 : (Jvm.Cond.fieldLink "FearLocksModel" (37 : Nat) "FearLocksModel" "tape" "[B") ∈ fx_TB := fx_m5 91 (by decide +kernel) rfl
theorem tb_1052 : (Jvm.Cond.fieldLink "FearLocksModel" (152 : Nat) "FearLocksModel" "taped" "I") ∈ fx_TB := fx_m5 92 (by decide +kernel) rfl
theorem tb_1053 : (Jvm.Cond.fieldLink "FearLocksModel" (159 : Nat) "FearLocksModel" "place0" "I") ∈ fx_TB := fx_m5 93 (by decide +kernel) rfl
theorem tb_1054 : (Jvm.Cond.fieldLink "FearLocksModel" (162 : Nat) "FearLocksModel" "length0" "I") ∈ fx_TB := fx_m5 94 (by decide +kernel) rfl
theorem tb_1055 : (Jvm.Cond.fieldLink "FearLocksModel" (169 : Nat) "FearLocksModel" "fault" "I") ∈ fx_TB := fx_m5 95 (by decide +kernel) rfl
theorem tb_1056 : (Jvm.Cond.fieldLink "FearLocksModel" (175 : Nat) "FearLocksModel" "number0" "I") ∈ fx_TB := fx_m5 96 (by decide +kernel) rfl
theorem tb_1057 : (Jvm.Cond.fieldLink "FearLocksModel" (186 : Nat) "FearLocksModel" "open" "I") ∈ fx_TB := fx_m5 97 (by decide +kernel) rfl
theorem tb_1058 : (Jvm.Cond.fieldLink "FearLocksModel" (182 : Nat) "FearLocksModel" "codeMany" "I") ∈ fx_TB := fx_m5 98 (by decide +kernel) rfl
theorem tb_1059 : (Jvm.Cond.fieldLink "FearLocksModel" (189 : Nat) "FearLocksModel" "waiting" "I") ∈ fx_TB := fx_m5 99 (by decide +kernel) rfl
theorem tb_1060 : (Jvm.Cond.fieldLink "FearLocksModel" (236 : Nat) "FearLocksModel" "saidMany" "I") ∈ fx_TB := fx_m5 100 (by decide +kernel) rfl
theorem tb_1061 : (Jvm.Cond.fieldLink "FearLocksModel" (251 : Nat) "FearLocksModel" "clauses" "I") ∈ fx_TB := fx_m5 101 (by decide +kernel) rfl
theorem tb_1062 : (Jvm.Cond.fieldLink "FearLocksModel" (41 : Nat) "FearLocksModel" "said" "[I") ∈ fx_TB := fx_m5 102 (by decide +kernel) rfl
theorem tb_1063 : (Jvm.Cond.fieldLink "FearLocksModel" (44 : Nat) "FearLocksModel" "waitsAt" "[I") ∈ fx_TB := fx_m5 103 (by decide +kernel) rfl
theorem tb_1064 : (Jvm.Cond.fieldLink "FearLocksModel" (47 : Nat) "FearLocksModel" "saidLetter" "[I") ∈ fx_TB := fx_m5 104 (by decide +kernel) rfl
theorem tb_1065 : (Jvm.Cond.fieldLink "FearLocksModel" (50 : Nat) "FearLocksModel" "saidFrom" "[I") ∈ fx_TB := fx_m5 105 (by decide +kernel) rfl
theorem tb_1066 : (Jvm.Cond.fieldLink "FearLocksModel" (53 : Nat) "FearLocksModel" "saidHalf" "[I") ∈ fx_TB := fx_m5 106 (by decide +kernel) rfl
theorem tb_1067 : (Jvm.Cond.fieldLink "FearLocksModel" (56 : Nat) "FearLocksModel" "saidTo" "[I") ∈ fx_TB := fx_m5 107 (by decide +kernel) rfl
theorem tb_1068 : (Jvm.Cond.fieldLink "FearLocksModel" (59 : Nat) "FearLocksModel" "codes" "[I") ∈ fx_TB := fx_m5 108 (by decide +kernel) rfl
theorem tb_1069 : (Jvm.Cond.fieldLink "FearLocksModel" (62 : Nat) "FearLocksModel" "clauseOf" "[I") ∈ fx_TB := fx_m5 109 (by decide +kernel) rfl
theorem tb_1070 : (Jvm.Cond.fieldLink "FearLocksModel" (65 : Nat) "FearLocksModel" "codeFrom" "[I") ∈ fx_TB := fx_m5 110 (by decide +kernel) rfl
theorem tb_1071 : (Jvm.Cond.fieldLink "FearLocksModel" (68 : Nat) "FearLocksModel" "codeHalf" "[I") ∈ fx_TB := fx_m5 111 (by decide +kernel) rfl
theorem tb_1072 : (Jvm.Cond.fieldLink "FearLocksModel" (71 : Nat) "FearLocksModel" "codeTo" "[I") ∈ fx_TB := fx_m5 112 (by decide +kernel) rfl
theorem tb_1073 : (Jvm.Cond.fieldLink "FearLocksModel" (74 : Nat) "FearLocksModel" "stack" "[I") ∈ fx_TB := fx_m5 113 (by decide +kernel) rfl
theorem tb_1074 : (Jvm.Cond.fieldLink "FearLocksModel" (77 : Nat) "FearLocksModel" "facts" "[I") ∈ fx_TB := fx_m5 114 (by decide +kernel) rfl
theorem tb_1075 : (Jvm.Cond.fieldLink "FearLocksModel" (268 : Nat) "FearLocksModel" "lines" "I") ∈ fx_TB := fx_m5 115 (by decide +kernel) rfl
theorem tb_1076 : (Jvm.Cond.fieldLink "FearLocksModel" (262 : Nat) "FearLocksModel" "meantSet" "I") ∈ fx_TB := fx_m5 116 (by decide +kernel) rfl
theorem tb_1077 : (Jvm.Cond.fieldLink "FearLocksModel" (321 : Nat) "FearLocksModel" "openedNow" "I") ∈ fx_TB := fx_m5 117 (by decide +kernel) rfl
theorem tb_1078 : (Jvm.Cond.fieldLink "FearLocksModel" (324 : Nat) "FearLocksModel" "vainNow" "I") ∈ fx_TB := fx_m5 118 (by decide +kernel) rfl
theorem tb_1079 : (Jvm.Cond.fieldLink "FearLocksModel" (80 : Nat) "FearLocksModel" "fearThen" "[I") ∈ fx_TB := fx_m5 119 (by decide +kernel) rfl
theorem tb_1080 : (Jvm.Cond.fieldLink "FearLocksModel" (83 : Nat) "FearLocksModel" "moreBy" "[I") ∈ fx_TB := fx_m5 120 (by decide +kernel) rfl
theorem tb_1081 : (Jvm.Cond.fieldLink "FearLocksModel" (86 : Nat) "FearLocksModel" "canBe" "[Z") ∈ fx_TB := fx_m5 121 (by decide +kernel) rfl
theorem tb_1082 : (Jvm.Cond.fieldLink "FearLocksModel" (90 : Nat) "FearLocksModel" "mostOf" "[I") ∈ fx_TB := fx_m5 122 (by decide +kernel) rfl
theorem tb_1083 : (Jvm.Cond.fieldLink "FearLocksModel" (93 : Nat) "FearLocksModel" "whoOf" "[I") ∈ fx_TB := fx_m5 123 (by decide +kernel) rfl
theorem tb_1084 : (Jvm.Cond.fieldLink "FearLocksModel" (395 : Nat) "FearLocksModel" "lowNow" "I") ∈ fx_TB := fx_m5 124 (by decide +kernel) rfl
theorem tb_1085 : (Jvm.Cond.fieldLink "FearLocksModel" (398 : Nat) "FearLocksModel" "highNow" "I") ∈ fx_TB := fx_m5 125 (by decide +kernel) rfl
theorem tb_1086 : (Jvm.Cond.fieldLink "FearLocksModel" (96 : Nat) "FearLocksModel" "orderNow" "[I") ∈ fx_TB := fx_m5 126 (by decide +kernel) rfl
theorem tb_1087 : (Jvm.Cond.fieldLink "FearLocksModel" (99 : Nat) "FearLocksModel" "wordsOf" "[J") ∈ fx_TB := fx_m5 127 (by decide +kernel) rfl
theorem tb_1088 : (Jvm.Cond.fieldLink "FearLocksModel" (103 : Nat) "FearLocksModel" "wordsThen" "[J") ∈ fx_TB := fx_m5 128 (by decide +kernel) rfl
theorem tb_1089 : (Jvm.Cond.fieldLink "FearLocksModel" (107 : Nat) "FearLocksModel" "leastBy" "[I") ∈ fx_TB := fx_m5 129 (by decide +kernel) rfl
theorem tb_1090 : (Jvm.Cond.fieldLink "FearLocksModel" (424 : Nat) "FearLocksModel" "isKept" "Z") ∈ fx_TB := fx_m5 130 (by decide +kernel) rfl
theorem tb_1196 : (Jvm.Cond.arrayClass Jvm.ClassFile.FieldType.boolean) ∈ fx_TB := fx_m5 236 (by decide +kernel) rfl
theorem tb_1197 : (Jvm.Cond.methodLink "FearLocksLaw" (17 : Nat) ({ cls := "FearLocksModel", name := "feed", desc := "(IIIII)I" } : Jvm.MethodName)) ∈ fx_TB := fx_m5 237 (by decide +kernel) rfl
theorem tb_1198 : (Jvm.Cond.instanceMethod ({ cls := "FearLocksModel", name := "feed", desc := "(IIIII)I" } : Jvm.MethodName)) ∈ fx_TB := fx_m5 238 (by decide +kernel) rfl
theorem tb_1199 : (Jvm.Cond.selects "FearLocksModel" ({ cls := "FearLocksModel", name := "feed", desc := "(IIIII)I" } : Jvm.MethodName) ({ cls := "FearLocksModel", name := "feed", desc := "(IIIII)I" } : Jvm.MethodName)) ∈ fx_TB := fx_m5 239 (by decide +kernel) rfl
theorem tb_1200 : (Jvm.Cond.code ({ cls := "FearLocksModel", name := "feed", desc := "(IIIII)I" } : Jvm.MethodName) prog_14_method_19_code (6 : Nat) (Option.some Jvm.ClassFile.FieldType.int)) ∈ fx_TB := fx_m6 0 (by decide +kernel) rfl
theorem tb_1201 : (Jvm.Cond.methodLink "FearLocksModel" (155 : Nat) ({ cls := "FearLocksModel", name := "types", desc := "(I)V" } : Jvm.MethodName)) ∈ fx_TB := fx_m6 1 (by decide +kernel) rfl
theorem tb_1203 : (Jvm.Cond.instanceMethod ({ cls := "FearLocksModel", name := "types", desc := "(I)V" } : Jvm.MethodName)) ∈ fx_TB := fx_m6 3 (by decide +kernel) rfl
theorem tb_1204 : (Jvm.Cond.code ({ cls := "FearLocksModel", name := "types", desc := "(I)V" } : Jvm.MethodName) prog_14_method_18_code (3 : Nat) (Option.none : Option Jvm.ClassFile.FieldType)) ∈ fx_TB := fx_m6 4 (by decide +kernel) rfl
theorem tb_1205 : (Jvm.Cond.methodLink "FearLocksLaw" (22 : Nat) ({ cls := "FearLocksModel", name := "law", desc := "(I)I" } : Jvm.MethodName)) ∈ fx_TB := fx_m6 5 (by decide +kernel) rfl
theorem tb_1206 : (Jvm.Cond.instanceMethod ({ cls := "FearLocksModel", name := "law", desc := "(I)I" } : Jvm.MethodName)) ∈ fx_TB := fx_m6 6 (by decide +kernel) rfl
theorem tb_1207 : (Jvm.Cond.selects "FearLocksModel" ({ cls := "FearLocksModel", name := "law", desc := "(I)I" } : Jvm.MethodName) ({ cls := "FearLocksModel", name := "law", desc := "(I)I" } : Jvm.MethodName)) ∈ fx_TB := fx_m6 7 (by decide +kernel) rfl
theorem tb_1208 : (Jvm.Cond.code ({ cls := "FearLocksModel", name := "law", desc := "(I)I" } : Jvm.MethodName) prog_14_method_42_code (4 : Nat) (Option.some Jvm.ClassFile.FieldType.int)) ∈ fx_TB := fx_m6 8 (by decide +kernel) rfl
theorem tb_1209 : (Jvm.Cond.methodLink "FearLocksModel" (117 : Nat) ({ cls := "FearLocksModel", name := "in", desc := "(III)Z" } : Jvm.MethodName)) ∈ fx_TB := fx_m6 9 (by decide +kernel) rfl
theorem tb_1210 : (Jvm.Cond.static ({ cls := "FearLocksModel", name := "in", desc := "(III)Z" } : Jvm.MethodName)) ∈ fx_TB := fx_m6 10 (by decide +kernel) rfl
theorem tb_1211 : (Jvm.Cond.code ({ cls := "FearLocksModel", name := "in", desc := "(III)Z" } : Jvm.MethodName) prog_14_method_2_code (3 : Nat) (Option.some Jvm.ClassFile.FieldType.boolean)) ∈ fx_TB := fx_m6 11 (by decide +kernel) rfl
theorem tb_1212 : (Jvm.Cond.methodLink "FearLocksModel" (242 : Nat) ({ cls := "FearLocksModel", name := "beginsText", desc := "(I)V" } : Jvm.MethodName)) ∈ fx_TB := fx_m6 12 (by decide +kernel) rfl
theorem tb_1214 : (Jvm.Cond.instanceMethod ({ cls := "FearLocksModel", name := "beginsText", desc := "(I)V" } : Jvm.MethodName)) ∈ fx_TB := fx_m6 14 (by decide +kernel) rfl
theorem tb_1215 : (Jvm.Cond.code ({ cls := "FearLocksModel", name := "beginsText", desc := "(I)V" } : Jvm.MethodName) prog_14_method_41_code (2 : Nat) (Option.none : Option Jvm.ClassFile.FieldType)) ∈ fx_TB := fx_m6 15 (by decide +kernel) rfl
theorem tb_1216 : (Jvm.Cond.methodLink "FearLocksModel" (245 : Nat) ({ cls := "FearLocksModel", name := "readsRule", desc := "()Z" } : Jvm.MethodName)) ∈ fx_TB := fx_m6 16 (by decide +kernel) rfl
theorem tb_1218 : (Jvm.Cond.instanceMethod ({ cls := "FearLocksModel", name := "readsRule", desc := "()Z" } : Jvm.MethodName)) ∈ fx_TB := fx_m6 18 (by decide +kernel) rfl
theorem tb_1219 : (Jvm.Cond.code ({ cls := "FearLocksModel", name := "readsRule", desc := "()Z" } : Jvm.MethodName) prog_14_method_40_code (2 : Nat) (Option.some Jvm.ClassFile.FieldType.boolean)) ∈ fx_TB := fx_m6 19 (by decide +kernel) rfl
theorem tb_1220 : (Jvm.Cond.methodLink "FearLocksModel" (165 : Nat) ({ cls := "FearLocksModel", name := "here", desc := "()I" } : Jvm.MethodName)) ∈ fx_TB := fx_m6 20 (by decide +kernel) rfl
theorem tb_1222 : (Jvm.Cond.instanceMethod ({ cls := "FearLocksModel", name := "here", desc := "()I" } : Jvm.MethodName)) ∈ fx_TB := fx_m6 22 (by decide +kernel) rfl
theorem tb_1223 : (Jvm.Cond.code ({ cls := "FearLocksModel", name := "here", desc := "()I" } : Jvm.MethodName) prog_14_method_21_code (1 : Nat) (Option.some Jvm.ClassFile.FieldType.int)) ∈ fx_TB := fx_m6 23 (by decide +kernel) rfl
theorem tb_1224 : (Jvm.Cond.methodLink "FearLocksModel" (172 : Nat) ({ cls := "FearLocksModel", name := "wrongAt", desc := "(II)Z" } : Jvm.MethodName)) ∈ fx_TB := fx_m6 24 (by decide +kernel) rfl
theorem tb_1226 : (Jvm.Cond.instanceMethod ({ cls := "FearLocksModel", name := "wrongAt", desc := "(II)Z" } : Jvm.MethodName)) ∈ fx_TB := fx_m6 26 (by decide +kernel) rfl
theorem tb_1227 : (Jvm.Cond.code ({ cls := "FearLocksModel", name := "wrongAt", desc := "(II)Z" } : Jvm.MethodName) prog_14_method_23_code (3 : Nat) (Option.some Jvm.ClassFile.FieldType.boolean)) ∈ fx_TB := fx_m6 27 (by decide +kernel) rfl
theorem tb_1228 : (Jvm.Cond.methodLink "FearLocksModel" (221 : Nat) ({ cls := "FearLocksModel", name := "readsSum", desc := "()Z" } : Jvm.MethodName)) ∈ fx_TB := fx_m6 28 (by decide +kernel) rfl
theorem tb_1230 : (Jvm.Cond.instanceMethod ({ cls := "FearLocksModel", name := "readsSum", desc := "()Z" } : Jvm.MethodName)) ∈ fx_TB := fx_m6 30 (by decide +kernel) rfl
theorem tb_1231 : (Jvm.Cond.code ({ cls := "FearLocksModel", name := "readsSum", desc := "()Z" } : Jvm.MethodName) prog_14_method_34_code (3 : Nat) (Option.some Jvm.ClassFile.FieldType.boolean)) ∈ fx_TB := fx_m6 31 (by decide +kernel) rfl
theorem tb_1232 : (Jvm.Cond.methodLink "FearLocksModel" (208 : Nat) ({ cls := "FearLocksModel", name := "readsFactor", desc := "()Z" } : Jvm.MethodName)) ∈ fx_TB := fx_m6 32 (by decide +kernel) rfl
theorem tb_1234 : (Jvm.Cond.instanceMethod ({ cls := "FearLocksModel", name := "readsFactor", desc := "()Z" } : Jvm.MethodName)) ∈ fx_TB := fx_m6 34 (by decide +kernel) rfl
theorem tb_1235 : (Jvm.Cond.code ({ cls := "FearLocksModel", name := "readsFactor", desc := "()Z" } : Jvm.MethodName) prog_14_method_32_code (2 : Nat) (Option.some Jvm.ClassFile.FieldType.boolean)) ∈ fx_TB := fx_m6 35 (by decide +kernel) rfl
theorem tb_1236 : (Jvm.Cond.methodLink "FearLocksModel" (199 : Nat) ({ cls := "FearLocksModel", name := "opens", desc := "(I)Z" } : Jvm.MethodName)) ∈ fx_TB := fx_m6 36 (by decide +kernel) rfl
theorem tb_1238 : (Jvm.Cond.instanceMethod ({ cls := "FearLocksModel", name := "opens", desc := "(I)Z" } : Jvm.MethodName)) ∈ fx_TB := fx_m6 38 (by decide +kernel) rfl
theorem tb_1239 : (Jvm.Cond.code ({ cls := "FearLocksModel", name := "opens", desc := "(I)Z" } : Jvm.MethodName) prog_14_method_27_code (2 : Nat) (Option.some Jvm.ClassFile.FieldType.boolean)) ∈ fx_TB := fx_m6 39 (by decide +kernel) rfl
theorem tb_1240 : (Jvm.Cond.constant "FearLocksModel" (185 : Nat) (1048576 : Int32)) ∈ fx_TB := fx_m6 40 (by decide +kernel) rfl
theorem tb_1241 : (Jvm.Cond.methodLink "FearLocksModel" (178 : Nat) ({ cls := "FearLocksModel", name := "isDigit", desc := "()Z" } : Jvm.MethodName)) ∈ fx_TB := fx_m6 41 (by decide +kernel) rfl
theorem tb_1243 : (Jvm.Cond.instanceMethod ({ cls := "FearLocksModel", name := "isDigit", desc := "()Z" } : Jvm.MethodName)) ∈ fx_TB := fx_m6 43 (by decide +kernel) rfl
theorem tb_1244 : (Jvm.Cond.code ({ cls := "FearLocksModel", name := "isDigit", desc := "()Z" } : Jvm.MethodName) prog_14_method_22_code (1 : Nat) (Option.some Jvm.ClassFile.FieldType.boolean)) ∈ fx_TB := fx_m6 44 (by decide +kernel) rfl
theorem tb_1245 : (Jvm.Cond.methodLink "FearLocksModel" (202 : Nat) ({ cls := "FearLocksModel", name := "readsNumber", desc := "()Z" } : Jvm.MethodName)) ∈ fx_TB := fx_m6 45 (by decide +kernel) rfl
theorem tb_1247 : (Jvm.Cond.instanceMethod ({ cls := "FearLocksModel", name := "readsNumber", desc := "()Z" } : Jvm.MethodName)) ∈ fx_TB := fx_m6 47 (by decide +kernel) rfl
theorem tb_1248 : (Jvm.Cond.code ({ cls := "FearLocksModel", name := "readsNumber", desc := "()Z" } : Jvm.MethodName) prog_14_method_25_code (2 : Nat) (Option.some Jvm.ClassFile.FieldType.boolean)) ∈ fx_TB := fx_m6 48 (by decide +kernel) rfl
theorem tb_1249 : (Jvm.Cond.methodLink "FearLocksModel" (195 : Nat) ({ cls := "FearLocksModel", name := "notes", desc := "(II)V" } : Jvm.MethodName)) ∈ fx_TB := fx_m6 49 (by decide +kernel) rfl
theorem tb_1251 : (Jvm.Cond.instanceMethod ({ cls := "FearLocksModel", name := "notes", desc := "(II)V" } : Jvm.MethodName)) ∈ fx_TB := fx_m6 51 (by decide +kernel) rfl
theorem tb_1252 : (Jvm.Cond.code ({ cls := "FearLocksModel", name := "notes", desc := "(II)V" } : Jvm.MethodName) prog_14_method_26_code (3 : Nat) (Option.none : Option Jvm.ClassFile.FieldType)) ∈ fx_TB := fx_m6 52 (by decide +kernel) rfl
theorem tb_1253 : (Jvm.Cond.methodLink "FearLocksModel" (205 : Nat) ({ cls := "FearLocksModel", name := "factOf", desc := "(I)I" } : Jvm.MethodName)) ∈ fx_TB := fx_m6 53 (by decide +kernel) rfl
theorem tb_1254 : (Jvm.Cond.static ({ cls := "FearLocksModel", name := "factOf", desc := "(I)I" } : Jvm.MethodName)) ∈ fx_TB := fx_m6 54 (by decide +kernel) rfl
theorem tb_1255 : (Jvm.Cond.code ({ cls := "FearLocksModel", name := "factOf", desc := "(I)I" } : Jvm.MethodName) prog_14_method_29_code (1 : Nat) (Option.some Jvm.ClassFile.FieldType.int)) ∈ fx_TB := fx_m6 55 (by decide +kernel) rfl
theorem tb_1256 : (Jvm.Cond.methodLink "FearLocksModel" (211 : Nat) ({ cls := "FearLocksModel", name := "sumSign", desc := "(I)I" } : Jvm.MethodName)) ∈ fx_TB := fx_m6 56 (by decide +kernel) rfl
theorem tb_1257 : (Jvm.Cond.static ({ cls := "FearLocksModel", name := "sumSign", desc := "(I)I" } : Jvm.MethodName)) ∈ fx_TB := fx_m6 57 (by decide +kernel) rfl
theorem tb_1258 : (Jvm.Cond.code ({ cls := "FearLocksModel", name := "sumSign", desc := "(I)I" } : Jvm.MethodName) prog_14_method_30_code (1 : Nat) (Option.some Jvm.ClassFile.FieldType.int)) ∈ fx_TB := fx_m6 58 (by decide +kernel) rfl
theorem tb_1259 : (Jvm.Cond.methodLink "FearLocksModel" (214 : Nat) ({ cls := "FearLocksModel", name := "closesSums", desc := "(Z)V" } : Jvm.MethodName)) ∈ fx_TB := fx_m6 59 (by decide +kernel) rfl
theorem tb_1261 : (Jvm.Cond.instanceMethod ({ cls := "FearLocksModel", name := "closesSums", desc := "(Z)V" } : Jvm.MethodName)) ∈ fx_TB := fx_m6 61 (by decide +kernel) rfl
theorem tb_1262 : (Jvm.Cond.code ({ cls := "FearLocksModel", name := "closesSums", desc := "(Z)V" } : Jvm.MethodName) prog_14_method_31_code (2 : Nat) (Option.none : Option Jvm.ClassFile.FieldType)) ∈ fx_TB := fx_m6 62 (by decide +kernel) rfl
theorem tb_1263 : (Jvm.Cond.methodLink "FearLocksModel" (192 : Nat) ({ cls := "FearLocksModel", name := "waitTop", desc := "()I" } : Jvm.MethodName)) ∈ fx_TB := fx_m6 63 (by decide +kernel) rfl
theorem tb_1265 : (Jvm.Cond.instanceMethod ({ cls := "FearLocksModel", name := "waitTop", desc := "()I" } : Jvm.MethodName)) ∈ fx_TB := fx_m6 65 (by decide +kernel) rfl
theorem tb_1266 : (Jvm.Cond.code ({ cls := "FearLocksModel", name := "waitTop", desc := "()I" } : Jvm.MethodName) prog_14_method_28_code (1 : Nat) (Option.some Jvm.ClassFile.FieldType.int)) ∈ fx_TB := fx_m6 66 (by decide +kernel) rfl
theorem tb_1267 : (Jvm.Cond.methodLink "FearLocksModel" (218 : Nat) ({ cls := "FearLocksModel", name := "hasOpenSum", desc := "(I)Z" } : Jvm.MethodName)) ∈ fx_TB := fx_m6 67 (by decide +kernel) rfl
theorem tb_1269 : (Jvm.Cond.instanceMethod ({ cls := "FearLocksModel", name := "hasOpenSum", desc := "(I)Z" } : Jvm.MethodName)) ∈ fx_TB := fx_m6 69 (by decide +kernel) rfl
theorem tb_1270 : (Jvm.Cond.code ({ cls := "FearLocksModel", name := "hasOpenSum", desc := "(I)Z" } : Jvm.MethodName) prog_14_method_33_code (3 : Nat) (Option.some Jvm.ClassFile.FieldType.boolean)) ∈ fx_TB := fx_m6 70 (by decide +kernel) rfl
theorem tb_1271 : (Jvm.Cond.methodLink "FearLocksModel" (239 : Nat) ({ cls := "FearLocksModel", name := "readsCondition", desc := "()Z" } : Jvm.MethodName)) ∈ fx_TB := fx_m6 71 (by decide +kernel) rfl
theorem tb_1273 : (Jvm.Cond.instanceMethod ({ cls := "FearLocksModel", name := "readsCondition", desc := "()Z" } : Jvm.MethodName)) ∈ fx_TB := fx_m6 73 (by decide +kernel) rfl
theorem tb_1274 : (Jvm.Cond.code ({ cls := "FearLocksModel", name := "readsCondition", desc := "()Z" } : Jvm.MethodName) prog_14_method_39_code (1 : Nat) (Option.some Jvm.ClassFile.FieldType.boolean)) ∈ fx_TB := fx_m6 74 (by decide +kernel) rfl
theorem tb_1275 : (Jvm.Cond.methodLink "FearLocksModel" (227 : Nat) ({ cls := "FearLocksModel", name := "readsCompared", desc := "()Z" } : Jvm.MethodName)) ∈ fx_TB := fx_m6 75 (by decide +kernel) rfl
theorem tb_1277 : (Jvm.Cond.instanceMethod ({ cls := "FearLocksModel", name := "readsCompared", desc := "()Z" } : Jvm.MethodName)) ∈ fx_TB := fx_m6 77 (by decide +kernel) rfl
theorem tb_1278 : (Jvm.Cond.code ({ cls := "FearLocksModel", name := "readsCompared", desc := "()Z" } : Jvm.MethodName) prog_14_method_38_code (2 : Nat) (Option.some Jvm.ClassFile.FieldType.boolean)) ∈ fx_TB := fx_m6 78 (by decide +kernel) rfl
theorem tb_1279 : (Jvm.Cond.methodLink "FearLocksModel" (224 : Nat) ({ cls := "FearLocksModel", name := "endsPiece", desc := "()V" } : Jvm.MethodName)) ∈ fx_TB := fx_m6 79 (by decide +kernel) rfl
theorem tb_1281 : (Jvm.Cond.instanceMethod ({ cls := "FearLocksModel", name := "endsPiece", desc := "()V" } : Jvm.MethodName)) ∈ fx_TB := fx_m6 81 (by decide +kernel) rfl
theorem tb_1282 : (Jvm.Cond.code ({ cls := "FearLocksModel", name := "endsPiece", desc := "()V" } : Jvm.MethodName) prog_14_method_35_code (1 : Nat) (Option.none : Option Jvm.ClassFile.FieldType)) ∈ fx_TB := fx_m6 82 (by decide +kernel) rfl
theorem tb_1283 : (Jvm.Cond.methodLink "FearLocksModel" (230 : Nat) ({ cls := "FearLocksModel", name := "lands", desc := "(Z)V" } : Jvm.MethodName)) ∈ fx_TB := fx_m6 83 (by decide +kernel) rfl
theorem tb_1285 : (Jvm.Cond.instanceMethod ({ cls := "FearLocksModel", name := "lands", desc := "(Z)V" } : Jvm.MethodName)) ∈ fx_TB := fx_m6 85 (by decide +kernel) rfl
theorem tb_1286 : (Jvm.Cond.code ({ cls := "FearLocksModel", name := "lands", desc := "(Z)V" } : Jvm.MethodName) prog_14_method_36_code (3 : Nat) (Option.none : Option Jvm.ClassFile.FieldType)) ∈ fx_TB := fx_m6 86 (by decide +kernel) rfl
theorem tb_1287 : (Jvm.Cond.methodLink "FearLocksModel" (233 : Nat) ({ cls := "FearLocksModel", name := "jumps", desc := "(I)V" } : Jvm.MethodName)) ∈ fx_TB := fx_m6 87 (by decide +kernel) rfl
theorem tb_1289 : (Jvm.Cond.instanceMethod ({ cls := "FearLocksModel", name := "jumps", desc := "(I)V" } : Jvm.MethodName)) ∈ fx_TB := fx_m6 89 (by decide +kernel) rfl
theorem tb_1290 : (Jvm.Cond.code ({ cls := "FearLocksModel", name := "jumps", desc := "(I)V" } : Jvm.MethodName) prog_14_method_37_code (2 : Nat) (Option.none : Option Jvm.ClassFile.FieldType)) ∈ fx_TB := fx_m6 90 (by decide +kernel) rfl
theorem tb_1291 : (Jvm.Cond.methodLink "FearLocksModel" (248 : Nat) ({ cls := "FearLocksModel", name := "takes", desc := "(I)Z" } : Jvm.MethodName)) ∈ fx_TB := fx_m6 91 (by decide +kernel) rfl
theorem tb_1293 : (Jvm.Cond.instanceMethod ({ cls := "FearLocksModel", name := "takes", desc := "(I)Z" } : Jvm.MethodName)) ∈ fx_TB := fx_m6 93 (by decide +kernel) rfl
theorem tb_1294 : (Jvm.Cond.code ({ cls := "FearLocksModel", name := "takes", desc := "(I)Z" } : Jvm.MethodName) prog_14_method_24_code (2 : Nat) (Option.some Jvm.ClassFile.FieldType.boolean)) ∈ fx_TB := fx_m6 94 (by decide +kernel) rfl
theorem tb_1295 : (Jvm.Cond.methodLink "FearLocksLaw" (27 : Nat) ({ cls := "FearLocksModel", name := "dreads", desc := "(II)I" } : Jvm.MethodName)) ∈ fx_TB := fx_m6 95 (by decide +kernel) rfl
theorem tb_1296 : (Jvm.Cond.instanceMethod ({ cls := "FearLocksModel", name := "dreads", desc := "(II)I" } : Jvm.MethodName)) ∈ fx_TB := fx_m6 96 (by decide +kernel) rfl
theorem tb_1297 : (Jvm.Cond.selects "FearLocksModel" ({ cls := "FearLocksModel", name := "dreads", desc := "(II)I" } : Jvm.MethodName) ({ cls := "FearLocksModel", name := "dreads", desc := "(II)I" } : Jvm.MethodName)) ∈ fx_TB := fx_m6 97 (by decide +kernel) rfl
theorem tb_1298 : (Jvm.Cond.code ({ cls := "FearLocksModel", name := "dreads", desc := "(II)I" } : Jvm.MethodName) prog_14_method_51_code (4 : Nat) (Option.some Jvm.ClassFile.FieldType.int)) ∈ fx_TB := fx_m6 98 (by decide +kernel) rfl
theorem tb_1299 : (Jvm.Cond.methodLink "FearLocksModel" (280 : Nat) ({ cls := "FearLocksModel", name := "copies", desc := "([I[I)V" } : Jvm.MethodName)) ∈ fx_TB := fx_m6 99 (by decide +kernel) rfl
theorem tb_1300 : (Jvm.Cond.static ({ cls := "FearLocksModel", name := "copies", desc := "([I[I)V" } : Jvm.MethodName)) ∈ fx_TB := fx_m6 100 (by decide +kernel) rfl
theorem tb_1301 : (Jvm.Cond.code ({ cls := "FearLocksModel", name := "copies", desc := "([I[I)V" } : Jvm.MethodName) prog_14_method_9_code (3 : Nat) (Option.none : Option Jvm.ClassFile.FieldType)) ∈ fx_TB := fx_m6 101 (by decide +kernel) rfl
theorem tb_1302 : (Jvm.Cond.methodLink "FearLocksModel" (284 : Nat) ({ cls := "FearLocksModel", name := "readsDread", desc := "(I)Z" } : Jvm.MethodName)) ∈ fx_TB := fx_m6 102 (by decide +kernel) rfl
theorem tb_1304 : (Jvm.Cond.instanceMethod ({ cls := "FearLocksModel", name := "readsDread", desc := "(I)Z" } : Jvm.MethodName)) ∈ fx_TB := fx_m6 104 (by decide +kernel) rfl
theorem tb_1305 : (Jvm.Cond.code ({ cls := "FearLocksModel", name := "readsDread", desc := "(I)Z" } : Jvm.MethodName) prog_14_method_50_code (5 : Nat) (Option.some Jvm.ClassFile.FieldType.boolean)) ∈ fx_TB := fx_m6 105 (by decide +kernel) rfl
theorem tb_1306 : (Jvm.Cond.methodLink "FearLocksModel" (265 : Nat) ({ cls := "FearLocksModel", name := "isLetter", desc := "()Z" } : Jvm.MethodName)) ∈ fx_TB := fx_m6 106 (by decide +kernel) rfl
theorem tb_1308 : (Jvm.Cond.instanceMethod ({ cls := "FearLocksModel", name := "isLetter", desc := "()Z" } : Jvm.MethodName)) ∈ fx_TB := fx_m6 108 (by decide +kernel) rfl
theorem tb_1309 : (Jvm.Cond.code ({ cls := "FearLocksModel", name := "isLetter", desc := "()Z" } : Jvm.MethodName) prog_14_method_47_code (1 : Nat) (Option.some Jvm.ClassFile.FieldType.boolean)) ∈ fx_TB := fx_m6 109 (by decide +kernel) rfl
theorem tb_1310 : (Jvm.Cond.methodLink "FearLocksModel" (271 : Nat) ({ cls := "FearLocksModel", name := "readsMeant", desc := "()Z" } : Jvm.MethodName)) ∈ fx_TB := fx_m6 110 (by decide +kernel) rfl
theorem tb_1312 : (Jvm.Cond.instanceMethod ({ cls := "FearLocksModel", name := "readsMeant", desc := "()Z" } : Jvm.MethodName)) ∈ fx_TB := fx_m6 112 (by decide +kernel) rfl
theorem tb_1313 : (Jvm.Cond.code ({ cls := "FearLocksModel", name := "readsMeant", desc := "()Z" } : Jvm.MethodName) prog_14_method_49_code (1 : Nat) (Option.some Jvm.ClassFile.FieldType.boolean)) ∈ fx_TB := fx_m6 113 (by decide +kernel) rfl
theorem tb_1314 : (Jvm.Cond.constant "FearLocksModel" (261 : Nat) (65535 : Int32)) ∈ fx_TB := fx_m6 114 (by decide +kernel) rfl
theorem tb_1315 : (Jvm.Cond.methodLink "FearLocksModel" (125 : Nat) ({ cls := "FearLocksModel", name := "has", desc := "(II)Z" } : Jvm.MethodName)) ∈ fx_TB := fx_m6 115 (by decide +kernel) rfl
theorem tb_1316 : (Jvm.Cond.static ({ cls := "FearLocksModel", name := "has", desc := "(II)Z" } : Jvm.MethodName)) ∈ fx_TB := fx_m6 116 (by decide +kernel) rfl
theorem tb_1317 : (Jvm.Cond.code ({ cls := "FearLocksModel", name := "has", desc := "(II)Z" } : Jvm.MethodName) prog_14_method_7_code (2 : Nat) (Option.some Jvm.ClassFile.FieldType.boolean)) ∈ fx_TB := fx_m6 117 (by decide +kernel) rfl
theorem tb_1318 : (Jvm.Cond.methodLink "FearLocksModel" (274 : Nat) ({ cls := "FearLocksModel", name := "readsAmount", desc := "()Z" } : Jvm.MethodName)) ∈ fx_TB := fx_m6 118 (by decide +kernel) rfl
theorem tb_1320 : (Jvm.Cond.instanceMethod ({ cls := "FearLocksModel", name := "readsAmount", desc := "()Z" } : Jvm.MethodName)) ∈ fx_TB := fx_m6 120 (by decide +kernel) rfl
theorem tb_1321 : (Jvm.Cond.code ({ cls := "FearLocksModel", name := "readsAmount", desc := "()Z" } : Jvm.MethodName) prog_14_method_48_code (2 : Nat) (Option.some Jvm.ClassFile.FieldType.boolean)) ∈ fx_TB := fx_m6 121 (by decide +kernel) rfl
theorem tb_1322 : (Jvm.Cond.methodLink "FearLocksModel" (277 : Nat) ({ cls := "FearLocksModel", name := "limit", desc := "(I)I" } : Jvm.MethodName)) ∈ fx_TB := fx_m6 122 (by decide +kernel) rfl
theorem tb_1323 : (Jvm.Cond.static ({ cls := "FearLocksModel", name := "limit", desc := "(I)I" } : Jvm.MethodName)) ∈ fx_TB := fx_m6 123 (by decide +kernel) rfl
theorem tb_1324 : (Jvm.Cond.code ({ cls := "FearLocksModel", name := "limit", desc := "(I)I" } : Jvm.MethodName) prog_14_method_6_code (1 : Nat) (Option.some Jvm.ClassFile.FieldType.int)) ∈ fx_TB := fx_m6 124 (by decide +kernel) rfl
theorem tb_1325 : (Jvm.Cond.methodLink "FearLocksModel" (110 : Nat) ({ cls := "FearLocksModel", name := "min", desc := "(II)I" } : Jvm.MethodName)) ∈ fx_TB := fx_m6 125 (by decide +kernel) rfl
theorem tb_1326 : (Jvm.Cond.static ({ cls := "FearLocksModel", name := "min", desc := "(II)I" } : Jvm.MethodName)) ∈ fx_TB := fx_m6 126 (by decide +kernel) rfl
theorem tb_1327 : (Jvm.Cond.code ({ cls := "FearLocksModel", name := "min", desc := "(II)I" } : Jvm.MethodName) prog_14_method_3_code (2 : Nat) (Option.some Jvm.ClassFile.FieldType.int)) ∈ fx_TB := fx_m6 127 (by decide +kernel) rfl
theorem tb_1328 : (Jvm.Cond.methodLink "FearLocksModel" (114 : Nat) ({ cls := "FearLocksModel", name := "max", desc := "(II)I" } : Jvm.MethodName)) ∈ fx_TB := fx_m6 128 (by decide +kernel) rfl
theorem tb_1329 : (Jvm.Cond.static ({ cls := "FearLocksModel", name := "max", desc := "(II)I" } : Jvm.MethodName)) ∈ fx_TB := fx_m6 129 (by decide +kernel) rfl
theorem tb_1330 : (Jvm.Cond.code ({ cls := "FearLocksModel", name := "max", desc := "(II)I" } : Jvm.MethodName) prog_14_method_4_code (2 : Nat) (Option.some Jvm.ClassFile.FieldType.int)) ∈ fx_TB := fx_m6 130 (by decide +kernel) rfl
theorem tb_1331 : (Jvm.Cond.methodLink "FearLocksLaw" (31 : Nat) ({ cls := "FearLocksModel", name := "orders", desc := "(I)I" } : Jvm.MethodName)) ∈ fx_TB := fx_m6 131 (by decide +kernel) rfl
theorem tb_1332 : (Jvm.Cond.instanceMethod ({ cls := "FearLocksModel", name := "orders", desc := "(I)I" } : Jvm.MethodName)) ∈ fx_TB := fx_m6 132 (by decide +kernel) rfl
theorem tb_1333 : (Jvm.Cond.selects "FearLocksModel" ({ cls := "FearLocksModel", name := "orders", desc := "(I)I" } : Jvm.MethodName) ({ cls := "FearLocksModel", name := "orders", desc := "(I)I" } : Jvm.MethodName)) ∈ fx_TB := fx_m6 133 (by decide +kernel) rfl
theorem tb_1334 : (Jvm.Cond.code ({ cls := "FearLocksModel", name := "orders", desc := "(I)I" } : Jvm.MethodName) prog_14_method_58_code (3 : Nat) (Option.some Jvm.ClassFile.FieldType.int)) ∈ fx_TB := fx_m6 134 (by decide +kernel) rfl
theorem tb_1335 : (Jvm.Cond.methodLink "FearLocksModel" (299 : Nat) ({ cls := "FearLocksModel", name := "laysAside", desc := "()V" } : Jvm.MethodName)) ∈ fx_TB := fx_m6 135 (by decide +kernel) rfl
theorem tb_1337 : (Jvm.Cond.instanceMethod ({ cls := "FearLocksModel", name := "laysAside", desc := "()V" } : Jvm.MethodName)) ∈ fx_TB := fx_m6 137 (by decide +kernel) rfl
theorem tb_1338 : (Jvm.Cond.code ({ cls := "FearLocksModel", name := "laysAside", desc := "()V" } : Jvm.MethodName) prog_14_method_56_code (2 : Nat) (Option.none : Option Jvm.ClassFile.FieldType)) ∈ fx_TB := fx_m6 138 (by decide +kernel) rfl
theorem tb_1339 : (Jvm.Cond.methodLink "FearLocksModel" (302 : Nat) ({ cls := "FearLocksModel", name := "readsOrder", desc := "()Z" } : Jvm.MethodName)) ∈ fx_TB := fx_m6 139 (by decide +kernel) rfl
theorem tb_1341 : (Jvm.Cond.instanceMethod ({ cls := "FearLocksModel", name := "readsOrder", desc := "()Z" } : Jvm.MethodName)) ∈ fx_TB := fx_m6 141 (by decide +kernel) rfl
theorem tb_1342 : (Jvm.Cond.code ({ cls := "FearLocksModel", name := "readsOrder", desc := "()Z" } : Jvm.MethodName) prog_14_method_55_code (1 : Nat) (Option.some Jvm.ClassFile.FieldType.boolean)) ∈ fx_TB := fx_m6 142 (by decide +kernel) rfl
theorem tb_1343 : (Jvm.Cond.methodLink "FearLocksModel" (290 : Nat) ({ cls := "FearLocksModel", name := "readsTwo", desc := "()Z" } : Jvm.MethodName)) ∈ fx_TB := fx_m6 143 (by decide +kernel) rfl
theorem tb_1345 : (Jvm.Cond.instanceMethod ({ cls := "FearLocksModel", name := "readsTwo", desc := "()Z" } : Jvm.MethodName)) ∈ fx_TB := fx_m6 145 (by decide +kernel) rfl
theorem tb_1346 : (Jvm.Cond.code ({ cls := "FearLocksModel", name := "readsTwo", desc := "()Z" } : Jvm.MethodName) prog_14_method_53_code (5 : Nat) (Option.some Jvm.ClassFile.FieldType.boolean)) ∈ fx_TB := fx_m6 146 (by decide +kernel) rfl
theorem tb_1347 : (Jvm.Cond.methodLink "FearLocksModel" (287 : Nat) ({ cls := "FearLocksModel", name := "readsOne", desc := "()Z" } : Jvm.MethodName)) ∈ fx_TB := fx_m6 147 (by decide +kernel) rfl
theorem tb_1349 : (Jvm.Cond.instanceMethod ({ cls := "FearLocksModel", name := "readsOne", desc := "()Z" } : Jvm.MethodName)) ∈ fx_TB := fx_m6 149 (by decide +kernel) rfl
theorem tb_1350 : (Jvm.Cond.code ({ cls := "FearLocksModel", name := "readsOne", desc := "()Z" } : Jvm.MethodName) prog_14_method_52_code (2 : Nat) (Option.some Jvm.ClassFile.FieldType.boolean)) ∈ fx_TB := fx_m6 150 (by decide +kernel) rfl
theorem tb_1351 : (Jvm.Cond.methodLink "FearLocksModel" (149 : Nat) ({ cls := "FearLocksModel", name := "isTold", desc := "(I)Z" } : Jvm.MethodName)) ∈ fx_TB := fx_m6 151 (by decide +kernel) rfl
theorem tb_1353 : (Jvm.Cond.instanceMethod ({ cls := "FearLocksModel", name := "isTold", desc := "(I)Z" } : Jvm.MethodName)) ∈ fx_TB := fx_m6 153 (by decide +kernel) rfl
theorem tb_1354 : (Jvm.Cond.code ({ cls := "FearLocksModel", name := "isTold", desc := "(I)Z" } : Jvm.MethodName) prog_14_method_10_code (2 : Nat) (Option.some Jvm.ClassFile.FieldType.boolean)) ∈ fx_TB := fx_m6 154 (by decide +kernel) rfl
theorem tb_1355 : (Jvm.Cond.methodLink "FearLocksModel" (293 : Nat) ({ cls := "FearLocksModel", name := "readsDoor", desc := "()Z" } : Jvm.MethodName)) ∈ fx_TB := fx_m6 155 (by decide +kernel) rfl
theorem tb_1357 : (Jvm.Cond.instanceMethod ({ cls := "FearLocksModel", name := "readsDoor", desc := "()Z" } : Jvm.MethodName)) ∈ fx_TB := fx_m6 157 (by decide +kernel) rfl
theorem tb_1358 : (Jvm.Cond.code ({ cls := "FearLocksModel", name := "readsDoor", desc := "()Z" } : Jvm.MethodName) prog_14_method_54_code (4 : Nat) (Option.some Jvm.ClassFile.FieldType.boolean)) ∈ fx_TB := fx_m6 158 (by decide +kernel) rfl
theorem tb_1359 : (Jvm.Cond.methodLink "FearLocksModel" (142 : Nat) ({ cls := "FearLocksModel", name := "isDoor", desc := "(I)Z" } : Jvm.MethodName)) ∈ fx_TB := fx_m6 159 (by decide +kernel) rfl
theorem tb_1361 : (Jvm.Cond.instanceMethod ({ cls := "FearLocksModel", name := "isDoor", desc := "(I)Z" } : Jvm.MethodName)) ∈ fx_TB := fx_m6 161 (by decide +kernel) rfl
theorem tb_1362 : (Jvm.Cond.code ({ cls := "FearLocksModel", name := "isDoor", desc := "(I)Z" } : Jvm.MethodName) prog_14_method_11_code (2 : Nat) (Option.some Jvm.ClassFile.FieldType.boolean)) ∈ fx_TB := fx_m6 162 (by decide +kernel) rfl
theorem tb_1363 : (Jvm.Cond.methodLink "FearLocksModel" (305 : Nat) ({ cls := "FearLocksModel", name := "putsBack", desc := "()V" } : Jvm.MethodName)) ∈ fx_TB := fx_m6 163 (by decide +kernel) rfl
theorem tb_1365 : (Jvm.Cond.instanceMethod ({ cls := "FearLocksModel", name := "putsBack", desc := "()V" } : Jvm.MethodName)) ∈ fx_TB := fx_m6 165 (by decide +kernel) rfl
theorem tb_1366 : (Jvm.Cond.code ({ cls := "FearLocksModel", name := "putsBack", desc := "()V" } : Jvm.MethodName) prog_14_method_57_code (2 : Nat) (Option.none : Option Jvm.ClassFile.FieldType)) ∈ fx_TB := fx_m6 166 (by decide +kernel) rfl
theorem tb_1367 : (Jvm.Cond.methodLink "FearLocksLaw" (35 : Nat) ({ cls := "FearLocksModel", name := "nights", desc := "(I)I" } : Jvm.MethodName)) ∈ fx_TB := fx_m6 167 (by decide +kernel) rfl
theorem tb_1368 : (Jvm.Cond.instanceMethod ({ cls := "FearLocksModel", name := "nights", desc := "(I)I" } : Jvm.MethodName)) ∈ fx_TB := fx_m6 168 (by decide +kernel) rfl
theorem tb_1369 : (Jvm.Cond.selects "FearLocksModel" ({ cls := "FearLocksModel", name := "nights", desc := "(I)I" } : Jvm.MethodName) ({ cls := "FearLocksModel", name := "nights", desc := "(I)I" } : Jvm.MethodName)) ∈ fx_TB := fx_m6 169 (by decide +kernel) rfl
theorem tb_1370 : (Jvm.Cond.code ({ cls := "FearLocksModel", name := "nights", desc := "(I)I" } : Jvm.MethodName) prog_14_method_68_code (2 : Nat) (Option.some Jvm.ClassFile.FieldType.int)) ∈ fx_TB := fx_m6 170 (by decide +kernel) rfl
theorem tb_1371 : (Jvm.Cond.methodLink "FearLocksModel" (349 : Nat) ({ cls := "FearLocksModel", name := "nightsGo", desc := "(I)V" } : Jvm.MethodName)) ∈ fx_TB := fx_m6 171 (by decide +kernel) rfl
theorem tb_1373 : (Jvm.Cond.instanceMethod ({ cls := "FearLocksModel", name := "nightsGo", desc := "(I)V" } : Jvm.MethodName)) ∈ fx_TB := fx_m6 173 (by decide +kernel) rfl
theorem tb_1374 : (Jvm.Cond.code ({ cls := "FearLocksModel", name := "nightsGo", desc := "(I)V" } : Jvm.MethodName) prog_14_method_67_code (3 : Nat) (Option.none : Option Jvm.ClassFile.FieldType)) ∈ fx_TB := fx_m6 174 (by decide +kernel) rfl
theorem tb_1375 : (Jvm.Cond.methodLink "FearLocksModel" (346 : Nat) ({ cls := "FearLocksModel", name := "nightGoes", desc := "()V" } : Jvm.MethodName)) ∈ fx_TB := fx_m6 175 (by decide +kernel) rfl
theorem tb_1377 : (Jvm.Cond.instanceMethod ({ cls := "FearLocksModel", name := "nightGoes", desc := "()V" } : Jvm.MethodName)) ∈ fx_TB := fx_m6 177 (by decide +kernel) rfl
theorem tb_1378 : (Jvm.Cond.code ({ cls := "FearLocksModel", name := "nightGoes", desc := "()V" } : Jvm.MethodName) prog_14_method_66_code (2 : Nat) (Option.none : Option Jvm.ClassFile.FieldType)) ∈ fx_TB := fx_m6 178 (by decide +kernel) rfl
theorem tb_1379 : (Jvm.Cond.methodLink "FearLocksModel" (340 : Nat) ({ cls := "FearLocksModel", name := "goesOut", desc := "(I)V" } : Jvm.MethodName)) ∈ fx_TB := fx_m6 179 (by decide +kernel) rfl
theorem tb_1381 : (Jvm.Cond.instanceMethod ({ cls := "FearLocksModel", name := "goesOut", desc := "(I)V" } : Jvm.MethodName)) ∈ fx_TB := fx_m6 181 (by decide +kernel) rfl
theorem tb_1382 : (Jvm.Cond.code ({ cls := "FearLocksModel", name := "goesOut", desc := "(I)V" } : Jvm.MethodName) prog_14_method_63_code (4 : Nat) (Option.none : Option Jvm.ClassFile.FieldType)) ∈ fx_TB := fx_m6 182 (by decide +kernel) rfl
theorem tb_1383 : (Jvm.Cond.constant "FearLocksModel" (327 : Nat) (65536 : Int32)) ∈ fx_TB := fx_m6 183 (by decide +kernel) rfl
theorem tb_1384 : (Jvm.Cond.methodLink "FearLocksModel" (311 : Nat) ({ cls := "FearLocksModel", name := "feels", desc := "(II)V" } : Jvm.MethodName)) ∈ fx_TB := fx_m6 184 (by decide +kernel) rfl
theorem tb_1386 : (Jvm.Cond.instanceMethod ({ cls := "FearLocksModel", name := "feels", desc := "(II)V" } : Jvm.MethodName)) ∈ fx_TB := fx_m6 186 (by decide +kernel) rfl
theorem tb_1387 : (Jvm.Cond.code ({ cls := "FearLocksModel", name := "feels", desc := "(II)V" } : Jvm.MethodName) prog_14_method_59_code (4 : Nat) (Option.none : Option Jvm.ClassFile.FieldType)) ∈ fx_TB := fx_m6 187 (by decide +kernel) rfl
theorem tb_1388 : (Jvm.Cond.methodLink "FearLocksModel" (135 : Nat) ({ cls := "FearLocksModel", name := "greatest", desc := "(I)I" } : Jvm.MethodName)) ∈ fx_TB := fx_m6 188 (by decide +kernel) rfl
theorem tb_1390 : (Jvm.Cond.instanceMethod ({ cls := "FearLocksModel", name := "greatest", desc := "(I)I" } : Jvm.MethodName)) ∈ fx_TB := fx_m6 190 (by decide +kernel) rfl
theorem tb_1391 : (Jvm.Cond.code ({ cls := "FearLocksModel", name := "greatest", desc := "(I)I" } : Jvm.MethodName) prog_14_method_13_code (4 : Nat) (Option.some Jvm.ClassFile.FieldType.int)) ∈ fx_TB := fx_m6 191 (by decide +kernel) rfl
theorem tb_1392 : (Jvm.Cond.methodLink "FearLocksModel" (132 : Nat) ({ cls := "FearLocksModel", name := "dread", desc := "(II)I" } : Jvm.MethodName)) ∈ fx_TB := fx_m6 192 (by decide +kernel) rfl
theorem tb_1394 : (Jvm.Cond.instanceMethod ({ cls := "FearLocksModel", name := "dread", desc := "(II)I" } : Jvm.MethodName)) ∈ fx_TB := fx_m6 194 (by decide +kernel) rfl
theorem tb_1395 : (Jvm.Cond.code ({ cls := "FearLocksModel", name := "dread", desc := "(II)I" } : Jvm.MethodName) prog_14_method_12_code (3 : Nat) (Option.some Jvm.ClassFile.FieldType.int)) ∈ fx_TB := fx_m6 195 (by decide +kernel) rfl
theorem tb_1396 : (Jvm.Cond.methodLink "FearLocksModel" (308 : Nat) ({ cls := "FearLocksModel", name := "bits", desc := "(I)I" } : Jvm.MethodName)) ∈ fx_TB := fx_m6 196 (by decide +kernel) rfl
theorem tb_1397 : (Jvm.Cond.static ({ cls := "FearLocksModel", name := "bits", desc := "(I)I" } : Jvm.MethodName)) ∈ fx_TB := fx_m6 197 (by decide +kernel) rfl
theorem tb_1398 : (Jvm.Cond.code ({ cls := "FearLocksModel", name := "bits", desc := "(I)I" } : Jvm.MethodName) prog_14_method_8_code (3 : Nat) (Option.some Jvm.ClassFile.FieldType.int)) ∈ fx_TB := fx_m6 198 (by decide +kernel) rfl
theorem tb_1399 : (Jvm.Cond.methodLink "FearLocksModel" (328 : Nat) ({ cls := "FearLocksModel", name := "holdsAny", desc := "(I)Z" } : Jvm.MethodName)) ∈ fx_TB := fx_m6 199 (by decide +kernel) rfl
theorem tb_1401 : (Jvm.Cond.instanceMethod ({ cls := "FearLocksModel", name := "holdsAny", desc := "(I)Z" } : Jvm.MethodName)) ∈ fx_TB := fx_m6 201 (by decide +kernel) rfl
theorem tb_1402 : (Jvm.Cond.code ({ cls := "FearLocksModel", name := "holdsAny", desc := "(I)Z" } : Jvm.MethodName) prog_14_method_46_code (3 : Nat) (Option.some Jvm.ClassFile.FieldType.boolean)) ∈ fx_TB := fx_m6 202 (by decide +kernel) rfl
theorem tb_1403 : (Jvm.Cond.methodLink "FearLocksModel" (258 : Nat) ({ cls := "FearLocksModel", name := "reckonsTo", desc := "(II)I" } : Jvm.MethodName)) ∈ fx_TB := fx_m6 203 (by decide +kernel) rfl
theorem tb_1405 : (Jvm.Cond.instanceMethod ({ cls := "FearLocksModel", name := "reckonsTo", desc := "(II)I" } : Jvm.MethodName)) ∈ fx_TB := fx_m6 205 (by decide +kernel) rfl
theorem tb_1406 : (Jvm.Cond.code ({ cls := "FearLocksModel", name := "reckonsTo", desc := "(II)I" } : Jvm.MethodName) prog_14_method_44_code (8 : Nat) (Option.some Jvm.ClassFile.FieldType.int)) ∈ fx_TB := fx_m6 206 (by decide +kernel) rfl
theorem tb_1407 : (Jvm.Cond.methodLink "FearLocksModel" (254 : Nat) ({ cls := "FearLocksModel", name := "reckon", desc := "(III)I" } : Jvm.MethodName)) ∈ fx_TB := fx_m6 207 (by decide +kernel) rfl
theorem tb_1408 : (Jvm.Cond.static ({ cls := "FearLocksModel", name := "reckon", desc := "(III)I" } : Jvm.MethodName)) ∈ fx_TB := fx_m6 208 (by decide +kernel) rfl
theorem tb_1409 : (Jvm.Cond.code ({ cls := "FearLocksModel", name := "reckon", desc := "(III)I" } : Jvm.MethodName) prog_14_method_43_code (3 : Nat) (Option.some Jvm.ClassFile.FieldType.int)) ∈ fx_TB := fx_m6 209 (by decide +kernel) rfl
theorem tb_1410 : (Jvm.Cond.methodLink "FearLocksModel" (331 : Nat) ({ cls := "FearLocksModel", name := "likedMost", desc := "(II)I" } : Jvm.MethodName)) ∈ fx_TB := fx_m6 210 (by decide +kernel) rfl
theorem tb_1412 : (Jvm.Cond.instanceMethod ({ cls := "FearLocksModel", name := "likedMost", desc := "(II)I" } : Jvm.MethodName)) ∈ fx_TB := fx_m6 212 (by decide +kernel) rfl
theorem tb_1413 : (Jvm.Cond.code ({ cls := "FearLocksModel", name := "likedMost", desc := "(II)I" } : Jvm.MethodName) prog_14_method_61_code (7 : Nat) (Option.some Jvm.ClassFile.FieldType.int)) ∈ fx_TB := fx_m6 213 (by decide +kernel) rfl
theorem tb_1414 : (Jvm.Cond.methodLink "FearLocksModel" (314 : Nat) ({ cls := "FearLocksModel", name := "feelsDoor", desc := "(III)V" } : Jvm.MethodName)) ∈ fx_TB := fx_m6 214 (by decide +kernel) rfl
theorem tb_1416 : (Jvm.Cond.instanceMethod ({ cls := "FearLocksModel", name := "feelsDoor", desc := "(III)V" } : Jvm.MethodName)) ∈ fx_TB := fx_m6 216 (by decide +kernel) rfl
theorem tb_1417 : (Jvm.Cond.code ({ cls := "FearLocksModel", name := "feelsDoor", desc := "(III)V" } : Jvm.MethodName) prog_14_method_60_code (4 : Nat) (Option.none : Option Jvm.ClassFile.FieldType)) ∈ fx_TB := fx_m6 217 (by decide +kernel) rfl
theorem tb_1418 : (Jvm.Cond.methodLink "FearLocksModel" (318 : Nat) ({ cls := "FearLocksModel", name := "byLaw", desc := "(II)I" } : Jvm.MethodName)) ∈ fx_TB := fx_m6 218 (by decide +kernel) rfl
theorem tb_1420 : (Jvm.Cond.instanceMethod ({ cls := "FearLocksModel", name := "byLaw", desc := "(II)I" } : Jvm.MethodName)) ∈ fx_TB := fx_m6 220 (by decide +kernel) rfl
theorem tb_1421 : (Jvm.Cond.code ({ cls := "FearLocksModel", name := "byLaw", desc := "(II)I" } : Jvm.MethodName) prog_14_method_45_code (5 : Nat) (Option.some Jvm.ClassFile.FieldType.int)) ∈ fx_TB := fx_m6 221 (by decide +kernel) rfl
theorem tb_1422 : (Jvm.Cond.methodLink "FearLocksModel" (334 : Nat) ({ cls := "FearLocksModel", name := "triesDoor", desc := "(III)V" } : Jvm.MethodName)) ∈ fx_TB := fx_m6 222 (by decide +kernel) rfl
theorem tb_1424 : (Jvm.Cond.instanceMethod ({ cls := "FearLocksModel", name := "triesDoor", desc := "(III)V" } : Jvm.MethodName)) ∈ fx_TB := fx_m6 224 (by decide +kernel) rfl
theorem tb_1425 : (Jvm.Cond.code ({ cls := "FearLocksModel", name := "triesDoor", desc := "(III)V" } : Jvm.MethodName) prog_14_method_62_code (6 : Nat) (Option.none : Option Jvm.ClassFile.FieldType)) ∈ fx_TB := fx_m6 225 (by decide +kernel) rfl
theorem tb_1426 : (Jvm.Cond.methodLink "FearLocksModel" (146 : Nat) ({ cls := "FearLocksModel", name := "unlocks", desc := "(II)Z" } : Jvm.MethodName)) ∈ fx_TB := fx_m6 226 (by decide +kernel) rfl
theorem tb_1428 : (Jvm.Cond.instanceMethod ({ cls := "FearLocksModel", name := "unlocks", desc := "(II)Z" } : Jvm.MethodName)) ∈ fx_TB := fx_m6 228 (by decide +kernel) rfl
theorem tb_1429 : (Jvm.Cond.code ({ cls := "FearLocksModel", name := "unlocks", desc := "(II)Z" } : Jvm.MethodName) prog_14_method_15_code (3 : Nat) (Option.some Jvm.ClassFile.FieldType.boolean)) ∈ fx_TB := fx_m6 229 (by decide +kernel) rfl
theorem tb_1430 : (Jvm.Cond.methodLink "FearLocksModel" (139 : Nat) ({ cls := "FearLocksModel", name := "fearOf", desc := "(I)I" } : Jvm.MethodName)) ∈ fx_TB := fx_m6 230 (by decide +kernel) rfl
theorem tb_1432 : (Jvm.Cond.instanceMethod ({ cls := "FearLocksModel", name := "fearOf", desc := "(I)I" } : Jvm.MethodName)) ∈ fx_TB := fx_m6 232 (by decide +kernel) rfl
theorem tb_1433 : (Jvm.Cond.code ({ cls := "FearLocksModel", name := "fearOf", desc := "(I)I" } : Jvm.MethodName) prog_14_method_14_code (6 : Nat) (Option.some Jvm.ClassFile.FieldType.int)) ∈ fx_TB := fx_m6 233 (by decide +kernel) rfl
theorem tb_1434 : (Jvm.Cond.methodLink "FearLocksModel" (343 : Nat) ({ cls := "FearLocksModel", name := "catches", desc := "()V" } : Jvm.MethodName)) ∈ fx_TB := fx_m6 234 (by decide +kernel) rfl
theorem tb_1436 : (Jvm.Cond.instanceMethod ({ cls := "FearLocksModel", name := "catches", desc := "()V" } : Jvm.MethodName)) ∈ fx_TB := fx_m6 236 (by decide +kernel) rfl
theorem tb_1437 : (Jvm.Cond.code ({ cls := "FearLocksModel", name := "catches", desc := "()V" } : Jvm.MethodName) prog_14_method_65_code (5 : Nat) (Option.none : Option Jvm.ClassFile.FieldType)) ∈ fx_TB := fx_m6 237 (by decide +kernel) rfl
theorem tb_1438 : (Jvm.Cond.methodLink "FearLocksModel" (337 : Nat) ({ cls := "FearLocksModel", name := "caughtBy", desc := "(II)I" } : Jvm.MethodName)) ∈ fx_TB := fx_m6 238 (by decide +kernel) rfl
theorem tb_1440 : (Jvm.Cond.instanceMethod ({ cls := "FearLocksModel", name := "caughtBy", desc := "(II)I" } : Jvm.MethodName)) ∈ fx_TB := fx_m7 0 (by decide +kernel) rfl
theorem tb_1441 : (Jvm.Cond.code ({ cls := "FearLocksModel", name := "caughtBy", desc := "(II)I" } : Jvm.MethodName) prog_14_method_64_code (3 : Nat) (Option.some Jvm.ClassFile.FieldType.int)) ∈ fx_TB := fx_m7 1 (by decide +kernel) rfl
theorem tb_1442 : (Jvm.Cond.methodLink "FearLocksLaw" (39 : Nat) ({ cls := "FearLocksModel", name := "tried", desc := "(II)I" } : Jvm.MethodName)) ∈ fx_TB := fx_m7 2 (by decide +kernel) rfl
theorem tb_1443 : (Jvm.Cond.instanceMethod ({ cls := "FearLocksModel", name := "tried", desc := "(II)I" } : Jvm.MethodName)) ∈ fx_TB := fx_m7 3 (by decide +kernel) rfl
theorem tb_1444 : (Jvm.Cond.selects "FearLocksModel" ({ cls := "FearLocksModel", name := "tried", desc := "(II)I" } : Jvm.MethodName) ({ cls := "FearLocksModel", name := "tried", desc := "(II)I" } : Jvm.MethodName)) ∈ fx_TB := fx_m7 4 (by decide +kernel) rfl
theorem tb_1445 : (Jvm.Cond.code ({ cls := "FearLocksModel", name := "tried", desc := "(II)I" } : Jvm.MethodName) prog_14_method_70_code (4 : Nat) (Option.some Jvm.ClassFile.FieldType.int)) ∈ fx_TB := fx_m7 5 (by decide +kernel) rfl
theorem tb_1446 : (Jvm.Cond.methodLink "FearLocksModel" (352 : Nat) ({ cls := "FearLocksModel", name := "orNone", desc := "(I)I" } : Jvm.MethodName)) ∈ fx_TB := fx_m7 6 (by decide +kernel) rfl
theorem tb_1447 : (Jvm.Cond.static ({ cls := "FearLocksModel", name := "orNone", desc := "(I)I" } : Jvm.MethodName)) ∈ fx_TB := fx_m7 7 (by decide +kernel) rfl
theorem tb_1448 : (Jvm.Cond.code ({ cls := "FearLocksModel", name := "orNone", desc := "(I)I" } : Jvm.MethodName) prog_14_method_69_code (1 : Nat) (Option.some Jvm.ClassFile.FieldType.int)) ∈ fx_TB := fx_m7 8 (by decide +kernel) rfl
theorem tb_1449 : (Jvm.Cond.methodLink "FearLocksLaw" (43 : Nat) ({ cls := "FearLocksModel", name := "personIs", desc := "(II)I" } : Jvm.MethodName)) ∈ fx_TB := fx_m7 9 (by decide +kernel) rfl
theorem tb_1450 : (Jvm.Cond.instanceMethod ({ cls := "FearLocksModel", name := "personIs", desc := "(II)I" } : Jvm.MethodName)) ∈ fx_TB := fx_m7 10 (by decide +kernel) rfl
theorem tb_1451 : (Jvm.Cond.selects "FearLocksModel" ({ cls := "FearLocksModel", name := "personIs", desc := "(II)I" } : Jvm.MethodName) ({ cls := "FearLocksModel", name := "personIs", desc := "(II)I" } : Jvm.MethodName)) ∈ fx_TB := fx_m7 11 (by decide +kernel) rfl
theorem tb_1452 : (Jvm.Cond.code ({ cls := "FearLocksModel", name := "personIs", desc := "(II)I" } : Jvm.MethodName) prog_14_method_72_code (3 : Nat) (Option.some Jvm.ClassFile.FieldType.int)) ∈ fx_TB := fx_m7 12 (by decide +kernel) rfl
theorem tb_1453 : (Jvm.Cond.methodLink "FearLocksModel" (355 : Nat) ({ cls := "FearLocksModel", name := "doorsOf", desc := "(I)I" } : Jvm.MethodName)) ∈ fx_TB := fx_m7 13 (by decide +kernel) rfl
theorem tb_1455 : (Jvm.Cond.instanceMethod ({ cls := "FearLocksModel", name := "doorsOf", desc := "(I)I" } : Jvm.MethodName)) ∈ fx_TB := fx_m7 15 (by decide +kernel) rfl
theorem tb_1456 : (Jvm.Cond.code ({ cls := "FearLocksModel", name := "doorsOf", desc := "(I)I" } : Jvm.MethodName) prog_14_method_16_code (4 : Nat) (Option.some Jvm.ClassFile.FieldType.int)) ∈ fx_TB := fx_m7 16 (by decide +kernel) rfl
theorem tb_1457 : (Jvm.Cond.methodLink "FearLocksModel" (358 : Nat) ({ cls := "FearLocksModel", name := "dreadSum", desc := "(I)I" } : Jvm.MethodName)) ∈ fx_TB := fx_m7 17 (by decide +kernel) rfl
theorem tb_1459 : (Jvm.Cond.instanceMethod ({ cls := "FearLocksModel", name := "dreadSum", desc := "(I)I" } : Jvm.MethodName)) ∈ fx_TB := fx_m7 19 (by decide +kernel) rfl
theorem tb_1460 : (Jvm.Cond.code ({ cls := "FearLocksModel", name := "dreadSum", desc := "(I)I" } : Jvm.MethodName) prog_14_method_71_code (4 : Nat) (Option.some Jvm.ClassFile.FieldType.int)) ∈ fx_TB := fx_m7 20 (by decide +kernel) rfl
theorem tb_1461 : (Jvm.Cond.methodLink "FearLocksLaw" (47 : Nat) ({ cls := "FearLocksModel", name := "doorIs", desc := "(II)I" } : Jvm.MethodName)) ∈ fx_TB := fx_m7 21 (by decide +kernel) rfl
theorem tb_1462 : (Jvm.Cond.instanceMethod ({ cls := "FearLocksModel", name := "doorIs", desc := "(II)I" } : Jvm.MethodName)) ∈ fx_TB := fx_m7 22 (by decide +kernel) rfl
theorem tb_1463 : (Jvm.Cond.selects "FearLocksModel" ({ cls := "FearLocksModel", name := "doorIs", desc := "(II)I" } : Jvm.MethodName) ({ cls := "FearLocksModel", name := "doorIs", desc := "(II)I" } : Jvm.MethodName)) ∈ fx_TB := fx_m7 23 (by decide +kernel) rfl
theorem tb_1464 : (Jvm.Cond.code ({ cls := "FearLocksModel", name := "doorIs", desc := "(II)I" } : Jvm.MethodName) prog_14_method_73_code (3 : Nat) (Option.some Jvm.ClassFile.FieldType.int)) ∈ fx_TB := fx_m7 24 (by decide +kernel) rfl
theorem tb_1465 : (Jvm.Cond.methodLink "FearLocksModel" (361 : Nat) ({ cls := "FearLocksModel", name := "whoUnlocks", desc := "(I)I" } : Jvm.MethodName)) ∈ fx_TB := fx_m7 25 (by decide +kernel) rfl
theorem tb_1467 : (Jvm.Cond.instanceMethod ({ cls := "FearLocksModel", name := "whoUnlocks", desc := "(I)I" } : Jvm.MethodName)) ∈ fx_TB := fx_m7 27 (by decide +kernel) rfl
theorem tb_1468 : (Jvm.Cond.code ({ cls := "FearLocksModel", name := "whoUnlocks", desc := "(I)I" } : Jvm.MethodName) prog_14_method_17_code (4 : Nat) (Option.some Jvm.ClassFile.FieldType.int)) ∈ fx_TB := fx_m7 28 (by decide +kernel) rfl
theorem tb_1469 : (Jvm.Cond.methodLink "FearLocksLaw" (51 : Nat) ({ cls := "FearLocksModel", name := "taught", desc := "(II)I" } : Jvm.MethodName)) ∈ fx_TB := fx_m7 29 (by decide +kernel) rfl
theorem tb_1470 : (Jvm.Cond.instanceMethod ({ cls := "FearLocksModel", name := "taught", desc := "(II)I" } : Jvm.MethodName)) ∈ fx_TB := fx_m7 30 (by decide +kernel) rfl
theorem tb_1471 : (Jvm.Cond.selects "FearLocksModel" ({ cls := "FearLocksModel", name := "taught", desc := "(II)I" } : Jvm.MethodName) ({ cls := "FearLocksModel", name := "taught", desc := "(II)I" } : Jvm.MethodName)) ∈ fx_TB := fx_m7 31 (by decide +kernel) rfl
theorem tb_1472 : (Jvm.Cond.code ({ cls := "FearLocksModel", name := "taught", desc := "(II)I" } : Jvm.MethodName) prog_14_method_74_code (7 : Nat) (Option.some Jvm.ClassFile.FieldType.int)) ∈ fx_TB := fx_m7 32 (by decide +kernel) rfl
theorem tb_1473 : (Jvm.Cond.constant "FearLocksModel" (364 : Nat) (1000000 : Int32)) ∈ fx_TB := fx_m7 33 (by decide +kernel) rfl
theorem tb_1474 : (Jvm.Cond.methodLink "FearLocksModel" (365 : Nat) ({ cls := "FearLocksModel", name := "size", desc := "(I)I" } : Jvm.MethodName)) ∈ fx_TB := fx_m7 34 (by decide +kernel) rfl
theorem tb_1475 : (Jvm.Cond.static ({ cls := "FearLocksModel", name := "size", desc := "(I)I" } : Jvm.MethodName)) ∈ fx_TB := fx_m7 35 (by decide +kernel) rfl
theorem tb_1476 : (Jvm.Cond.code ({ cls := "FearLocksModel", name := "size", desc := "(I)I" } : Jvm.MethodName) prog_14_method_5_code (1 : Nat) (Option.some Jvm.ClassFile.FieldType.int)) ∈ fx_TB := fx_m7 36 (by decide +kernel) rfl
theorem tb_1477 : (Jvm.Cond.methodLink "FearLocksLaw" (55 : Nat) ({ cls := "FearLocksModel", name := "crew", desc := "(I)I" } : Jvm.MethodName)) ∈ fx_TB := fx_m7 37 (by decide +kernel) rfl
theorem tb_1478 : (Jvm.Cond.instanceMethod ({ cls := "FearLocksModel", name := "crew", desc := "(I)I" } : Jvm.MethodName)) ∈ fx_TB := fx_m7 38 (by decide +kernel) rfl
theorem tb_1479 : (Jvm.Cond.selects "FearLocksModel" ({ cls := "FearLocksModel", name := "crew", desc := "(I)I" } : Jvm.MethodName) ({ cls := "FearLocksModel", name := "crew", desc := "(I)I" } : Jvm.MethodName)) ∈ fx_TB := fx_m7 39 (by decide +kernel) rfl
theorem tb_1480 : (Jvm.Cond.code ({ cls := "FearLocksModel", name := "crew", desc := "(I)I" } : Jvm.MethodName) prog_14_method_77_code (4 : Nat) (Option.some Jvm.ClassFile.FieldType.int)) ∈ fx_TB := fx_m7 40 (by decide +kernel) rfl
theorem tb_1481 : (Jvm.Cond.methodLink "FearLocksModel" (368 : Nat) ({ cls := "FearLocksModel", name := "laysWho", desc := "()V" } : Jvm.MethodName)) ∈ fx_TB := fx_m7 41 (by decide +kernel) rfl
theorem tb_1483 : (Jvm.Cond.instanceMethod ({ cls := "FearLocksModel", name := "laysWho", desc := "()V" } : Jvm.MethodName)) ∈ fx_TB := fx_m7 43 (by decide +kernel) rfl
theorem tb_1484 : (Jvm.Cond.code ({ cls := "FearLocksModel", name := "laysWho", desc := "()V" } : Jvm.MethodName) prog_14_method_75_code (2 : Nat) (Option.none : Option Jvm.ClassFile.FieldType)) ∈ fx_TB := fx_m7 44 (by decide +kernel) rfl
theorem tb_1485 : (Jvm.Cond.methodLink "FearLocksModel" (371 : Nat) ({ cls := "FearLocksModel", name := "isCrew", desc := "(I)Z" } : Jvm.MethodName)) ∈ fx_TB := fx_m7 45 (by decide +kernel) rfl
theorem tb_1487 : (Jvm.Cond.instanceMethod ({ cls := "FearLocksModel", name := "isCrew", desc := "(I)Z" } : Jvm.MethodName)) ∈ fx_TB := fx_m7 47 (by decide +kernel) rfl
theorem tb_1488 : (Jvm.Cond.code ({ cls := "FearLocksModel", name := "isCrew", desc := "(I)Z" } : Jvm.MethodName) prog_14_method_76_code (3 : Nat) (Option.some Jvm.ClassFile.FieldType.boolean)) ∈ fx_TB := fx_m7 48 (by decide +kernel) rfl
theorem tb_1489 : (Jvm.Cond.methodLink "FearLocksLaw" (60 : Nat) ({ cls := "FearLocksModel", name := "lodgings", desc := "()I" } : Jvm.MethodName)) ∈ fx_TB := fx_m7 49 (by decide +kernel) rfl
theorem tb_1490 : (Jvm.Cond.instanceMethod ({ cls := "FearLocksModel", name := "lodgings", desc := "()I" } : Jvm.MethodName)) ∈ fx_TB := fx_m7 50 (by decide +kernel) rfl
theorem tb_1491 : (Jvm.Cond.selects "FearLocksModel" ({ cls := "FearLocksModel", name := "lodgings", desc := "()I" } : Jvm.MethodName) ({ cls := "FearLocksModel", name := "lodgings", desc := "()I" } : Jvm.MethodName)) ∈ fx_TB := fx_m7 51 (by decide +kernel) rfl
theorem tb_1492 : (Jvm.Cond.code ({ cls := "FearLocksModel", name := "lodgings", desc := "()I" } : Jvm.MethodName) prog_14_method_78_code (5 : Nat) (Option.some Jvm.ClassFile.FieldType.int)) ∈ fx_TB := fx_m7 52 (by decide +kernel) rfl
theorem tb_1493 : (Jvm.Cond.methodLink "FearLocksLaw" (64 : Nat) ({ cls := "FearLocksModel", name := "couples", desc := "(I)I" } : Jvm.MethodName)) ∈ fx_TB := fx_m7 53 (by decide +kernel) rfl
theorem tb_1494 : (Jvm.Cond.instanceMethod ({ cls := "FearLocksModel", name := "couples", desc := "(I)I" } : Jvm.MethodName)) ∈ fx_TB := fx_m7 54 (by decide +kernel) rfl
theorem tb_1495 : (Jvm.Cond.selects "FearLocksModel" ({ cls := "FearLocksModel", name := "couples", desc := "(I)I" } : Jvm.MethodName) ({ cls := "FearLocksModel", name := "couples", desc := "(I)I" } : Jvm.MethodName)) ∈ fx_TB := fx_m7 55 (by decide +kernel) rfl
theorem tb_1496 : (Jvm.Cond.code ({ cls := "FearLocksModel", name := "couples", desc := "(I)I" } : Jvm.MethodName) prog_14_method_80_code (5 : Nat) (Option.some Jvm.ClassFile.FieldType.int)) ∈ fx_TB := fx_m7 56 (by decide +kernel) rfl
theorem tb_1497 : (Jvm.Cond.methodLink "FearLocksModel" (374 : Nat) ({ cls := "FearLocksModel", name := "areCouple", desc := "(III)Z" } : Jvm.MethodName)) ∈ fx_TB := fx_m7 57 (by decide +kernel) rfl
theorem tb_1499 : (Jvm.Cond.instanceMethod ({ cls := "FearLocksModel", name := "areCouple", desc := "(III)Z" } : Jvm.MethodName)) ∈ fx_TB := fx_m7 59 (by decide +kernel) rfl
theorem tb_1500 : (Jvm.Cond.code ({ cls := "FearLocksModel", name := "areCouple", desc := "(III)Z" } : Jvm.MethodName) prog_14_method_79_code (5 : Nat) (Option.some Jvm.ClassFile.FieldType.boolean)) ∈ fx_TB := fx_m7 60 (by decide +kernel) rfl
theorem tb_1501 : (Jvm.Cond.methodLink "FearLocksModel" (377 : Nat) ({ cls := "FearLocksModel", name := "lowest", desc := "(I)I" } : Jvm.MethodName)) ∈ fx_TB := fx_m7 61 (by decide +kernel) rfl
theorem tb_1502 : (Jvm.Cond.static ({ cls := "FearLocksModel", name := "lowest", desc := "(I)I" } : Jvm.MethodName)) ∈ fx_TB := fx_m7 62 (by decide +kernel) rfl
theorem tb_1503 : (Jvm.Cond.code ({ cls := "FearLocksModel", name := "lowest", desc := "(I)I" } : Jvm.MethodName) prog_14_method_81_code (2 : Nat) (Option.some Jvm.ClassFile.FieldType.int)) ∈ fx_TB := fx_m7 63 (by decide +kernel) rfl
theorem tb_1504 : (Jvm.Cond.methodLink "FearLocksLaw" (69 : Nat) ({ cls := "FearLocksModel", name := "fashion", desc := "(III)I" } : Jvm.MethodName)) ∈ fx_TB := fx_m7 64 (by decide +kernel) rfl
theorem tb_1505 : (Jvm.Cond.instanceMethod ({ cls := "FearLocksModel", name := "fashion", desc := "(III)I" } : Jvm.MethodName)) ∈ fx_TB := fx_m7 65 (by decide +kernel) rfl
theorem tb_1506 : (Jvm.Cond.selects "FearLocksModel" ({ cls := "FearLocksModel", name := "fashion", desc := "(III)I" } : Jvm.MethodName) ({ cls := "FearLocksModel", name := "fashion", desc := "(III)I" } : Jvm.MethodName)) ∈ fx_TB := fx_m7 66 (by decide +kernel) rfl
theorem tb_1507 : (Jvm.Cond.code ({ cls := "FearLocksModel", name := "fashion", desc := "(III)I" } : Jvm.MethodName) prog_14_method_83_code (8 : Nat) (Option.some Jvm.ClassFile.FieldType.int)) ∈ fx_TB := fx_m7 67 (by decide +kernel) rfl
theorem tb_1508 : (Jvm.Cond.methodLink "FearLocksModel" (380 : Nat) ({ cls := "FearLocksModel", name := "firstWith", desc := "(I)I" } : Jvm.MethodName)) ∈ fx_TB := fx_m7 68 (by decide +kernel) rfl
theorem tb_1510 : (Jvm.Cond.instanceMethod ({ cls := "FearLocksModel", name := "firstWith", desc := "(I)I" } : Jvm.MethodName)) ∈ fx_TB := fx_m7 70 (by decide +kernel) rfl
theorem tb_1511 : (Jvm.Cond.code ({ cls := "FearLocksModel", name := "firstWith", desc := "(I)I" } : Jvm.MethodName) prog_14_method_82_code (4 : Nat) (Option.some Jvm.ClassFile.FieldType.int)) ∈ fx_TB := fx_m7 71 (by decide +kernel) rfl
theorem tb_1512 : (Jvm.Cond.methodLink "FearLocksLaw" (73 : Nat) ({ cls := "FearLocksModel", name := "fears", desc := "(I)I" } : Jvm.MethodName)) ∈ fx_TB := fx_m7 72 (by decide +kernel) rfl
theorem tb_1513 : (Jvm.Cond.instanceMethod ({ cls := "FearLocksModel", name := "fears", desc := "(I)I" } : Jvm.MethodName)) ∈ fx_TB := fx_m7 73 (by decide +kernel) rfl
theorem tb_1514 : (Jvm.Cond.selects "FearLocksModel" ({ cls := "FearLocksModel", name := "fears", desc := "(I)I" } : Jvm.MethodName) ({ cls := "FearLocksModel", name := "fears", desc := "(I)I" } : Jvm.MethodName)) ∈ fx_TB := fx_m7 74 (by decide +kernel) rfl
theorem tb_1515 : (Jvm.Cond.code ({ cls := "FearLocksModel", name := "fears", desc := "(I)I" } : Jvm.MethodName) prog_14_method_84_code (5 : Nat) (Option.some Jvm.ClassFile.FieldType.int)) ∈ fx_TB := fx_m7 75 (by decide +kernel) rfl
theorem tb_1516 : (Jvm.Cond.methodLink "FearLocksLaw" (77 : Nat) ({ cls := "FearLocksModel", name := "unlike", desc := "(II)I" } : Jvm.MethodName)) ∈ fx_TB := fx_m7 76 (by decide +kernel) rfl
theorem tb_1517 : (Jvm.Cond.instanceMethod ({ cls := "FearLocksModel", name := "unlike", desc := "(II)I" } : Jvm.MethodName)) ∈ fx_TB := fx_m7 77 (by decide +kernel) rfl
theorem tb_1518 : (Jvm.Cond.selects "FearLocksModel" ({ cls := "FearLocksModel", name := "unlike", desc := "(II)I" } : Jvm.MethodName) ({ cls := "FearLocksModel", name := "unlike", desc := "(II)I" } : Jvm.MethodName)) ∈ fx_TB := fx_m7 78 (by decide +kernel) rfl
theorem tb_1519 : (Jvm.Cond.code ({ cls := "FearLocksModel", name := "unlike", desc := "(II)I" } : Jvm.MethodName) prog_14_method_86_code (3 : Nat) (Option.some Jvm.ClassFile.FieldType.int)) ∈ fx_TB := fx_m7 79 (by decide +kernel) rfl
theorem tb_1520 : (Jvm.Cond.methodLink "FearLocksModel" (383 : Nat) ({ cls := "FearLocksModel", name := "unlikeBy", desc := "(II)I" } : Jvm.MethodName)) ∈ fx_TB := fx_m7 80 (by decide +kernel) rfl
theorem tb_1522 : (Jvm.Cond.instanceMethod ({ cls := "FearLocksModel", name := "unlikeBy", desc := "(II)I" } : Jvm.MethodName)) ∈ fx_TB := fx_m7 82 (by decide +kernel) rfl
theorem tb_1523 : (Jvm.Cond.code ({ cls := "FearLocksModel", name := "unlikeBy", desc := "(II)I" } : Jvm.MethodName) prog_14_method_85_code (5 : Nat) (Option.some Jvm.ClassFile.FieldType.int)) ∈ fx_TB := fx_m7 83 (by decide +kernel) rfl
theorem tb_1524 : (Jvm.Cond.methodLink "FearLocksLaw" (81 : Nat) ({ cls := "FearLocksModel", name := "mostLike", desc := "(I)I" } : Jvm.MethodName)) ∈ fx_TB := fx_m7 84 (by decide +kernel) rfl
theorem tb_1525 : (Jvm.Cond.instanceMethod ({ cls := "FearLocksModel", name := "mostLike", desc := "(I)I" } : Jvm.MethodName)) ∈ fx_TB := fx_m7 85 (by decide +kernel) rfl
theorem tb_1526 : (Jvm.Cond.selects "FearLocksModel" ({ cls := "FearLocksModel", name := "mostLike", desc := "(I)I" } : Jvm.MethodName) ({ cls := "FearLocksModel", name := "mostLike", desc := "(I)I" } : Jvm.MethodName)) ∈ fx_TB := fx_m7 86 (by decide +kernel) rfl
theorem tb_1527 : (Jvm.Cond.code ({ cls := "FearLocksModel", name := "mostLike", desc := "(I)I" } : Jvm.MethodName) prog_14_method_87_code (4 : Nat) (Option.some Jvm.ClassFile.FieldType.int)) ∈ fx_TB := fx_m7 87 (by decide +kernel) rfl
theorem tb_1528 : (Jvm.Cond.methodLink "FearLocksLaw" (85 : Nat) ({ cls := "FearLocksModel", name := "circles", desc := "(II)I" } : Jvm.MethodName)) ∈ fx_TB := fx_m7 88 (by decide +kernel) rfl
theorem tb_1529 : (Jvm.Cond.instanceMethod ({ cls := "FearLocksModel", name := "circles", desc := "(II)I" } : Jvm.MethodName)) ∈ fx_TB := fx_m7 89 (by decide +kernel) rfl
theorem tb_1530 : (Jvm.Cond.selects "FearLocksModel" ({ cls := "FearLocksModel", name := "circles", desc := "(II)I" } : Jvm.MethodName) ({ cls := "FearLocksModel", name := "circles", desc := "(II)I" } : Jvm.MethodName)) ∈ fx_TB := fx_m7 90 (by decide +kernel) rfl
theorem tb_1531 : (Jvm.Cond.code ({ cls := "FearLocksModel", name := "circles", desc := "(II)I" } : Jvm.MethodName) prog_14_method_89_code (6 : Nat) (Option.some Jvm.ClassFile.FieldType.int)) ∈ fx_TB := fx_m7 91 (by decide +kernel) rfl
theorem tb_1532 : (Jvm.Cond.methodLink "FearLocksModel" (386 : Nat) ({ cls := "FearLocksModel", name := "circleOf", desc := "(II)I" } : Jvm.MethodName)) ∈ fx_TB := fx_m7 92 (by decide +kernel) rfl
theorem tb_1534 : (Jvm.Cond.instanceMethod ({ cls := "FearLocksModel", name := "circleOf", desc := "(II)I" } : Jvm.MethodName)) ∈ fx_TB := fx_m7 94 (by decide +kernel) rfl
theorem tb_1535 : (Jvm.Cond.code ({ cls := "FearLocksModel", name := "circleOf", desc := "(II)I" } : Jvm.MethodName) prog_14_method_88_code (7 : Nat) (Option.some Jvm.ClassFile.FieldType.int)) ∈ fx_TB := fx_m7 95 (by decide +kernel) rfl
theorem tb_1536 : (Jvm.Cond.methodLink "FearLocksLaw" (89 : Nat) ({ cls := "FearLocksModel", name := "keystones", desc := "()I" } : Jvm.MethodName)) ∈ fx_TB := fx_m7 96 (by decide +kernel) rfl
theorem tb_1537 : (Jvm.Cond.instanceMethod ({ cls := "FearLocksModel", name := "keystones", desc := "()I" } : Jvm.MethodName)) ∈ fx_TB := fx_m7 97 (by decide +kernel) rfl
theorem tb_1538 : (Jvm.Cond.selects "FearLocksModel" ({ cls := "FearLocksModel", name := "keystones", desc := "()I" } : Jvm.MethodName) ({ cls := "FearLocksModel", name := "keystones", desc := "()I" } : Jvm.MethodName)) ∈ fx_TB := fx_m7 98 (by decide +kernel) rfl
theorem tb_1539 : (Jvm.Cond.code ({ cls := "FearLocksModel", name := "keystones", desc := "()I" } : Jvm.MethodName) prog_14_method_92_code (3 : Nat) (Option.some Jvm.ClassFile.FieldType.int)) ∈ fx_TB := fx_m7 99 (by decide +kernel) rfl
theorem tb_1540 : (Jvm.Cond.methodLink "FearLocksModel" (392 : Nat) ({ cls := "FearLocksModel", name := "isKeystone", desc := "(I)Z" } : Jvm.MethodName)) ∈ fx_TB := fx_m7 100 (by decide +kernel) rfl
theorem tb_1542 : (Jvm.Cond.instanceMethod ({ cls := "FearLocksModel", name := "isKeystone", desc := "(I)Z" } : Jvm.MethodName)) ∈ fx_TB := fx_m7 102 (by decide +kernel) rfl
theorem tb_1543 : (Jvm.Cond.code ({ cls := "FearLocksModel", name := "isKeystone", desc := "(I)Z" } : Jvm.MethodName) prog_14_method_91_code (3 : Nat) (Option.some Jvm.ClassFile.FieldType.boolean)) ∈ fx_TB := fx_m7 103 (by decide +kernel) rfl
theorem tb_1544 : (Jvm.Cond.methodLink "FearLocksModel" (389 : Nat) ({ cls := "FearLocksModel", name := "groupOf", desc := "(II)I" } : Jvm.MethodName)) ∈ fx_TB := fx_m7 104 (by decide +kernel) rfl
theorem tb_1546 : (Jvm.Cond.instanceMethod ({ cls := "FearLocksModel", name := "groupOf", desc := "(II)I" } : Jvm.MethodName)) ∈ fx_TB := fx_m7 106 (by decide +kernel) rfl
theorem tb_1547 : (Jvm.Cond.code ({ cls := "FearLocksModel", name := "groupOf", desc := "(II)I" } : Jvm.MethodName) prog_14_method_90_code (6 : Nat) (Option.some Jvm.ClassFile.FieldType.int)) ∈ fx_TB := fx_m7 107 (by decide +kernel) rfl
theorem tb_1548 : (Jvm.Cond.methodLink "FearLocksLaw" (93 : Nat) ({ cls := "FearLocksModel", name := "steps", desc := "(II)I" } : Jvm.MethodName)) ∈ fx_TB := fx_m7 108 (by decide +kernel) rfl
theorem tb_1549 : (Jvm.Cond.instanceMethod ({ cls := "FearLocksModel", name := "steps", desc := "(II)I" } : Jvm.MethodName)) ∈ fx_TB := fx_m7 109 (by decide +kernel) rfl
theorem tb_1550 : (Jvm.Cond.selects "FearLocksModel" ({ cls := "FearLocksModel", name := "steps", desc := "(II)I" } : Jvm.MethodName) ({ cls := "FearLocksModel", name := "steps", desc := "(II)I" } : Jvm.MethodName)) ∈ fx_TB := fx_m7 110 (by decide +kernel) rfl
theorem tb_1551 : (Jvm.Cond.code ({ cls := "FearLocksModel", name := "steps", desc := "(II)I" } : Jvm.MethodName) prog_14_method_93_code (7 : Nat) (Option.some Jvm.ClassFile.FieldType.int)) ∈ fx_TB := fx_m7 111 (by decide +kernel) rfl
theorem tb_1552 : (Jvm.Cond.methodLink "FearLocksLaw" (97 : Nat) ({ cls := "FearLocksModel", name := "guess", desc := "(II)I" } : Jvm.MethodName)) ∈ fx_TB := fx_m7 112 (by decide +kernel) rfl
theorem tb_1553 : (Jvm.Cond.instanceMethod ({ cls := "FearLocksModel", name := "guess", desc := "(II)I" } : Jvm.MethodName)) ∈ fx_TB := fx_m7 113 (by decide +kernel) rfl
theorem tb_1554 : (Jvm.Cond.selects "FearLocksModel" ({ cls := "FearLocksModel", name := "guess", desc := "(II)I" } : Jvm.MethodName) ({ cls := "FearLocksModel", name := "guess", desc := "(II)I" } : Jvm.MethodName)) ∈ fx_TB := fx_m7 114 (by decide +kernel) rfl
theorem tb_1555 : (Jvm.Cond.code ({ cls := "FearLocksModel", name := "guess", desc := "(II)I" } : Jvm.MethodName) prog_14_method_95_code (5 : Nat) (Option.some Jvm.ClassFile.FieldType.int)) ∈ fx_TB := fx_m7 115 (by decide +kernel) rfl
theorem tb_1556 : (Jvm.Cond.methodLink "FearLocksModel" (401 : Nat) ({ cls := "FearLocksModel", name := "octet", desc := "(I)I" } : Jvm.MethodName)) ∈ fx_TB := fx_m7 116 (by decide +kernel) rfl
theorem tb_1558 : (Jvm.Cond.instanceMethod ({ cls := "FearLocksModel", name := "octet", desc := "(I)I" } : Jvm.MethodName)) ∈ fx_TB := fx_m7 118 (by decide +kernel) rfl
theorem tb_1559 : (Jvm.Cond.code ({ cls := "FearLocksModel", name := "octet", desc := "(I)I" } : Jvm.MethodName) prog_14_method_20_code (2 : Nat) (Option.some Jvm.ClassFile.FieldType.int)) ∈ fx_TB := fx_m7 119 (by decide +kernel) rfl
theorem tb_1560 : (Jvm.Cond.methodLink "FearLocksModel" (404 : Nat) ({ cls := "FearLocksModel", name := "bounds", desc := "(II)Z" } : Jvm.MethodName)) ∈ fx_TB := fx_m7 120 (by decide +kernel) rfl
theorem tb_1562 : (Jvm.Cond.instanceMethod ({ cls := "FearLocksModel", name := "bounds", desc := "(II)Z" } : Jvm.MethodName)) ∈ fx_TB := fx_m7 122 (by decide +kernel) rfl
theorem tb_1563 : (Jvm.Cond.code ({ cls := "FearLocksModel", name := "bounds", desc := "(II)Z" } : Jvm.MethodName) prog_14_method_94_code (6 : Nat) (Option.some Jvm.ClassFile.FieldType.boolean)) ∈ fx_TB := fx_m7 123 (by decide +kernel) rfl
theorem tb_1564 : (Jvm.Cond.methodLink "FearLocksLaw" (101 : Nat) ({ cls := "FearLocksModel", name := "sentNext", desc := "(II)I" } : Jvm.MethodName)) ∈ fx_TB := fx_m7 124 (by decide +kernel) rfl
theorem tb_1565 : (Jvm.Cond.instanceMethod ({ cls := "FearLocksModel", name := "sentNext", desc := "(II)I" } : Jvm.MethodName)) ∈ fx_TB := fx_m7 125 (by decide +kernel) rfl
theorem tb_1566 : (Jvm.Cond.selects "FearLocksModel" ({ cls := "FearLocksModel", name := "sentNext", desc := "(II)I" } : Jvm.MethodName) ({ cls := "FearLocksModel", name := "sentNext", desc := "(II)I" } : Jvm.MethodName)) ∈ fx_TB := fx_m7 126 (by decide +kernel) rfl
theorem tb_1567 : (Jvm.Cond.code ({ cls := "FearLocksModel", name := "sentNext", desc := "(II)I" } : Jvm.MethodName) prog_14_method_97_code (5 : Nat) (Option.some Jvm.ClassFile.FieldType.int)) ∈ fx_TB := fx_m7 127 (by decide +kernel) rfl
theorem tb_1568 : (Jvm.Cond.methodLink "FearLocksModel" (407 : Nat) ({ cls := "FearLocksModel", name := "leaves", desc := "(II)I" } : Jvm.MethodName)) ∈ fx_TB := fx_m7 128 (by decide +kernel) rfl
theorem tb_1570 : (Jvm.Cond.instanceMethod ({ cls := "FearLocksModel", name := "leaves", desc := "(II)I" } : Jvm.MethodName)) ∈ fx_TB := fx_m7 130 (by decide +kernel) rfl
theorem tb_1571 : (Jvm.Cond.code ({ cls := "FearLocksModel", name := "leaves", desc := "(II)I" } : Jvm.MethodName) prog_14_method_96_code (4 : Nat) (Option.some Jvm.ClassFile.FieldType.int)) ∈ fx_TB := fx_m7 131 (by decide +kernel) rfl
theorem tb_1572 : (Jvm.Cond.methodLink "FearLocksLaw" (105 : Nat) ({ cls := "FearLocksModel", name := "guards", desc := "(I)I" } : Jvm.MethodName)) ∈ fx_TB := fx_m7 132 (by decide +kernel) rfl
theorem tb_1573 : (Jvm.Cond.instanceMethod ({ cls := "FearLocksModel", name := "guards", desc := "(I)I" } : Jvm.MethodName)) ∈ fx_TB := fx_m7 133 (by decide +kernel) rfl
theorem tb_1574 : (Jvm.Cond.selects "FearLocksModel" ({ cls := "FearLocksModel", name := "guards", desc := "(I)I" } : Jvm.MethodName) ({ cls := "FearLocksModel", name := "guards", desc := "(I)I" } : Jvm.MethodName)) ∈ fx_TB := fx_m7 134 (by decide +kernel) rfl
theorem tb_1575 : (Jvm.Cond.code ({ cls := "FearLocksModel", name := "guards", desc := "(I)I" } : Jvm.MethodName) prog_14_method_101_code (5 : Nat) (Option.some Jvm.ClassFile.FieldType.int)) ∈ fx_TB := fx_m7 135 (by decide +kernel) rfl
theorem tb_1576 : (Jvm.Cond.methodLink "FearLocksModel" (413 : Nat) ({ cls := "FearLocksModel", name := "canStand", desc := "(I)Z" } : Jvm.MethodName)) ∈ fx_TB := fx_m7 136 (by decide +kernel) rfl
theorem tb_1578 : (Jvm.Cond.instanceMethod ({ cls := "FearLocksModel", name := "canStand", desc := "(I)Z" } : Jvm.MethodName)) ∈ fx_TB := fx_m7 138 (by decide +kernel) rfl
theorem tb_1579 : (Jvm.Cond.code ({ cls := "FearLocksModel", name := "canStand", desc := "(I)Z" } : Jvm.MethodName) prog_14_method_100_code (4 : Nat) (Option.some Jvm.ClassFile.FieldType.boolean)) ∈ fx_TB := fx_m7 139 (by decide +kernel) rfl
theorem tb_1580 : (Jvm.Cond.methodLink "FearLocksModel" (416 : Nat) ({ cls := "FearLocksModel", name := "nextOrder", desc := "(I)Z" } : Jvm.MethodName)) ∈ fx_TB := fx_m7 140 (by decide +kernel) rfl
theorem tb_1582 : (Jvm.Cond.instanceMethod ({ cls := "FearLocksModel", name := "nextOrder", desc := "(I)Z" } : Jvm.MethodName)) ∈ fx_TB := fx_m7 142 (by decide +kernel) rfl
theorem tb_1583 : (Jvm.Cond.code ({ cls := "FearLocksModel", name := "nextOrder", desc := "(I)Z" } : Jvm.MethodName) prog_14_method_99_code (6 : Nat) (Option.some Jvm.ClassFile.FieldType.boolean)) ∈ fx_TB := fx_m7 143 (by decide +kernel) rfl
theorem tb_1584 : (Jvm.Cond.methodLink "FearLocksModel" (410 : Nat) ({ cls := "FearLocksModel", name := "changesOrder", desc := "(II)V" } : Jvm.MethodName)) ∈ fx_TB := fx_m7 144 (by decide +kernel) rfl
theorem tb_1586 : (Jvm.Cond.instanceMethod ({ cls := "FearLocksModel", name := "changesOrder", desc := "(II)V" } : Jvm.MethodName)) ∈ fx_TB := fx_m7 146 (by decide +kernel) rfl
theorem tb_1587 : (Jvm.Cond.code ({ cls := "FearLocksModel", name := "changesOrder", desc := "(II)V" } : Jvm.MethodName) prog_14_method_98_code (4 : Nat) (Option.none : Option Jvm.ClassFile.FieldType)) ∈ fx_TB := fx_m7 147 (by decide +kernel) rfl
theorem tb_1588 : (Jvm.Cond.methodLink "FearLocksLaw" (110 : Nat) ({ cls := "FearLocksModel", name := "word", desc := "(III)J" } : Jvm.MethodName)) ∈ fx_TB := fx_m7 148 (by decide +kernel) rfl
theorem tb_1589 : (Jvm.Cond.instanceMethod ({ cls := "FearLocksModel", name := "word", desc := "(III)J" } : Jvm.MethodName)) ∈ fx_TB := fx_m7 149 (by decide +kernel) rfl
theorem tb_1590 : (Jvm.Cond.selects "FearLocksModel" ({ cls := "FearLocksModel", name := "word", desc := "(III)J" } : Jvm.MethodName) ({ cls := "FearLocksModel", name := "word", desc := "(III)J" } : Jvm.MethodName)) ∈ fx_TB := fx_m7 150 (by decide +kernel) rfl
theorem tb_1591 : (Jvm.Cond.code ({ cls := "FearLocksModel", name := "word", desc := "(III)J" } : Jvm.MethodName) prog_14_method_102_code (7 : Nat) (Option.some Jvm.ClassFile.FieldType.long)) ∈ fx_TB := fx_m7 151 (by decide +kernel) rfl
theorem tb_1592 : (Jvm.Cond.constantLong "FearLocksModel" (419 : Nat) (-1 : Int64)) ∈ fx_TB := fx_m7 152 (by decide +kernel) rfl
theorem tb_1593 : (Jvm.Cond.methodLink "FearLocksLaw" (114 : Nat) ({ cls := "FearLocksModel", name := "rooms", desc := "(II)I" } : Jvm.MethodName)) ∈ fx_TB := fx_m7 153 (by decide +kernel) rfl
theorem tb_1594 : (Jvm.Cond.instanceMethod ({ cls := "FearLocksModel", name := "rooms", desc := "(II)I" } : Jvm.MethodName)) ∈ fx_TB := fx_m7 154 (by decide +kernel) rfl
theorem tb_1595 : (Jvm.Cond.selects "FearLocksModel" ({ cls := "FearLocksModel", name := "rooms", desc := "(II)I" } : Jvm.MethodName) ({ cls := "FearLocksModel", name := "rooms", desc := "(II)I" } : Jvm.MethodName)) ∈ fx_TB := fx_m7 155 (by decide +kernel) rfl
theorem tb_1596 : (Jvm.Cond.code ({ cls := "FearLocksModel", name := "rooms", desc := "(II)I" } : Jvm.MethodName) prog_14_method_103_code (5 : Nat) (Option.some Jvm.ClassFile.FieldType.int)) ∈ fx_TB := fx_m7 156 (by decide +kernel) rfl
theorem tb_1597 : (Jvm.Cond.methodLink "FearLocksModel" (421 : Nat) ({ cls := "FearLocksModel", name := "sleeps", desc := "(III)I" } : Jvm.MethodName)) ∈ fx_TB := fx_m7 157 (by decide +kernel) rfl
theorem tb_1599 : (Jvm.Cond.instanceMethod ({ cls := "FearLocksModel", name := "sleeps", desc := "(III)I" } : Jvm.MethodName)) ∈ fx_TB := fx_m7 159 (by decide +kernel) rfl
theorem tb_1600 : (Jvm.Cond.code ({ cls := "FearLocksModel", name := "sleeps", desc := "(III)I" } : Jvm.MethodName) prog_14_method_104_code (7 : Nat) (Option.some Jvm.ClassFile.FieldType.int)) ∈ fx_TB := fx_m7 160 (by decide +kernel) rfl
theorem tb_1601 : (Jvm.Cond.methodLink "FearLocksLaw" (119 : Nat) ({ cls := "FearLocksModel", name := "seed", desc := "(I)Z" } : Jvm.MethodName)) ∈ fx_TB := fx_m7 161 (by decide +kernel) rfl
theorem tb_1602 : (Jvm.Cond.instanceMethod ({ cls := "FearLocksModel", name := "seed", desc := "(I)Z" } : Jvm.MethodName)) ∈ fx_TB := fx_m7 162 (by decide +kernel) rfl
theorem tb_1603 : (Jvm.Cond.selects "FearLocksModel" ({ cls := "FearLocksModel", name := "seed", desc := "(I)Z" } : Jvm.MethodName) ({ cls := "FearLocksModel", name := "seed", desc := "(I)Z" } : Jvm.MethodName)) ∈ fx_TB := fx_m7 163 (by decide +kernel) rfl
theorem tb_1604 : (Jvm.Cond.code ({ cls := "FearLocksModel", name := "seed", desc := "(I)Z" } : Jvm.MethodName) prog_14_method_105_code (2 : Nat) (Option.some Jvm.ClassFile.FieldType.boolean)) ∈ fx_TB := fx_m7 164 (by decide +kernel) rfl
theorem tb_1605 : (Jvm.Cond.methodLink "FearLocksLaw" (123 : Nat) ({ cls := "FearLocksModel", name := "keep", desc := "()I" } : Jvm.MethodName)) ∈ fx_TB := fx_m7 165 (by decide +kernel) rfl
theorem tb_1606 : (Jvm.Cond.instanceMethod ({ cls := "FearLocksModel", name := "keep", desc := "()I" } : Jvm.MethodName)) ∈ fx_TB := fx_m7 166 (by decide +kernel) rfl
theorem tb_1607 : (Jvm.Cond.selects "FearLocksModel" ({ cls := "FearLocksModel", name := "keep", desc := "()I" } : Jvm.MethodName) ({ cls := "FearLocksModel", name := "keep", desc := "()I" } : Jvm.MethodName)) ∈ fx_TB := fx_m7 167 (by decide +kernel) rfl
theorem tb_1608 : (Jvm.Cond.code ({ cls := "FearLocksModel", name := "keep", desc := "()I" } : Jvm.MethodName) prog_14_method_106_code (1 : Nat) (Option.some Jvm.ClassFile.FieldType.int)) ∈ fx_TB := fx_m7 168 (by decide +kernel) rfl
theorem tb_1609 : (Jvm.Cond.methodLink "FearLocksLaw" (128 : Nat) ({ cls := "FearLocksModel", name := "undo", desc := "()Z" } : Jvm.MethodName)) ∈ fx_TB := fx_m7 169 (by decide +kernel) rfl
theorem tb_1610 : (Jvm.Cond.instanceMethod ({ cls := "FearLocksModel", name := "undo", desc := "()Z" } : Jvm.MethodName)) ∈ fx_TB := fx_m7 170 (by decide +kernel) rfl
theorem tb_1611 : (Jvm.Cond.selects "FearLocksModel" ({ cls := "FearLocksModel", name := "undo", desc := "()Z" } : Jvm.MethodName) ({ cls := "FearLocksModel", name := "undo", desc := "()Z" } : Jvm.MethodName)) ∈ fx_TB := fx_m7 171 (by decide +kernel) rfl
theorem tb_1612 : (Jvm.Cond.code ({ cls := "FearLocksModel", name := "undo", desc := "()Z" } : Jvm.MethodName) prog_14_method_107_code (1 : Nat) (Option.some Jvm.ClassFile.FieldType.boolean)) ∈ fx_TB := fx_m7 172 (by decide +kernel) rfl
theorem tb_1613 : (Jvm.Cond.methodLink "FearLocksLaw" (132 : Nat) ({ cls := "FearLocksModel", name := "check", desc := "(I)I" } : Jvm.MethodName)) ∈ fx_TB := fx_m7 173 (by decide +kernel) rfl
theorem tb_1614 : (Jvm.Cond.instanceMethod ({ cls := "FearLocksModel", name := "check", desc := "(I)I" } : Jvm.MethodName)) ∈ fx_TB := fx_m7 174 (by decide +kernel) rfl
theorem tb_1615 : (Jvm.Cond.selects "FearLocksModel" ({ cls := "FearLocksModel", name := "check", desc := "(I)I" } : Jvm.MethodName) ({ cls := "FearLocksModel", name := "check", desc := "(I)I" } : Jvm.MethodName)) ∈ fx_TB := fx_m7 175 (by decide +kernel) rfl
theorem tb_1616 : (Jvm.Cond.code ({ cls := "FearLocksModel", name := "check", desc := "(I)I" } : Jvm.MethodName) prog_14_method_108_code (3 : Nat) (Option.some Jvm.ClassFile.FieldType.int)) ∈ fx_TB := fx_m7 176 (by decide +kernel) rfl
theorem tb_1617 : (Jvm.Cond.methodLink "FearLocksLaw" (136 : Nat) ({ cls := "FearLocksModel", name := "count", desc := "(I)I" } : Jvm.MethodName)) ∈ fx_TB := fx_m7 177 (by decide +kernel) rfl
theorem tb_1618 : (Jvm.Cond.instanceMethod ({ cls := "FearLocksModel", name := "count", desc := "(I)I" } : Jvm.MethodName)) ∈ fx_TB := fx_m7 178 (by decide +kernel) rfl
theorem tb_1619 : (Jvm.Cond.selects "FearLocksModel" ({ cls := "FearLocksModel", name := "count", desc := "(I)I" } : Jvm.MethodName) ({ cls := "FearLocksModel", name := "count", desc := "(I)I" } : Jvm.MethodName)) ∈ fx_TB := fx_m7 179 (by decide +kernel) rfl
theorem tb_1620 : (Jvm.Cond.code ({ cls := "FearLocksModel", name := "count", desc := "(I)I" } : Jvm.MethodName) prog_14_method_111_code (2 : Nat) (Option.some Jvm.ClassFile.FieldType.int)) ∈ fx_TB := fx_m7 180 (by decide +kernel) rfl
theorem tb_1621 : (Jvm.Cond.methodLink "FearLocksModel" (428 : Nat) ({ cls := "FearLocksModel", name := "twos", desc := "()I" } : Jvm.MethodName)) ∈ fx_TB := fx_m7 181 (by decide +kernel) rfl
theorem tb_1623 : (Jvm.Cond.instanceMethod ({ cls := "FearLocksModel", name := "twos", desc := "()I" } : Jvm.MethodName)) ∈ fx_TB := fx_m7 183 (by decide +kernel) rfl
theorem tb_1624 : (Jvm.Cond.code ({ cls := "FearLocksModel", name := "twos", desc := "()I" } : Jvm.MethodName) prog_14_method_109_code (3 : Nat) (Option.some Jvm.ClassFile.FieldType.int)) ∈ fx_TB := fx_m7 184 (by decide +kernel) rfl
theorem tb_1625 : (Jvm.Cond.methodLink "FearLocksModel" (431 : Nat) ({ cls := "FearLocksModel", name := "openedOfAll", desc := "()I" } : Jvm.MethodName)) ∈ fx_TB := fx_m7 185 (by decide +kernel) rfl
theorem tb_1627 : (Jvm.Cond.instanceMethod ({ cls := "FearLocksModel", name := "openedOfAll", desc := "()I" } : Jvm.MethodName)) ∈ fx_TB := fx_m7 187 (by decide +kernel) rfl
theorem tb_1628 : (Jvm.Cond.code ({ cls := "FearLocksModel", name := "openedOfAll", desc := "()I" } : Jvm.MethodName) prog_14_method_110_code (3 : Nat) (Option.some Jvm.ClassFile.FieldType.int)) ∈ fx_TB := fx_m7 188 (by decide +kernel) rfl
end
section

def fx_LB (j : Nat) : Int32 := ([107, 100, 102, 118, 103, 109, 110, 111, 116, 119] : List Int32).getD j 0
/-- the text of the letters, and String's own switch: they lie below b -/
def fx_E (b : Nat) (U : State) : Prop := ∃ aK aV : Nat, vk_R RX4 34 "kdfvgmnotw" aK U ∧ va_O "java/lang/String" aK (fun q => b ≤ q) U U.heap ∧ va_OF "java/lang/String" "coder" "B" (.int 0) aK (fun q => b ≤ q) U U.heap ∧ va_OF "java/lang/String" "value" "[B" (.ref aV) aK (fun q => b ≤ q) U U.heap ∧ va_T .byte aV 10 (fun j => .int (fx_LB j)) (fun q => b ≤ q) U U.heap ∧ va_Z "java/lang/String" "COMPACT_STRINGS" "Z" (.int 1) (fun q => b ≤ q) U U.heap ∧ vk_R RX5 101 "kdfvgmnotw" aK U
theorem fx_E.to {b : Nat} {s U : State} {locs : List Loc} (h : fx_E b s) (hW : s.WarmedH U.vm) (hS : va_S (fun q => b ≤ q) s.heap U.heap locs) : fx_E b U := by
  obtain ⟨aK, aV, h1, h2, h3, h4, h5, h6, h7⟩ := h
  exact ⟨aK, aV, h1.warm hW, va_O.moved hW.alike (h2.kept hS.2.1), va_OF.moved hW.alike (h3.kept hS.2.1), va_OF.moved hW.alike (h4.kept hS.2.1), va_T.moved hW.alike (h5.kept hS.2.1), va_Z.moved hW.alike (h6.kept hS.2.1), h7.warm hW⟩
theorem fx_E.same {b : Nat} {u U : State} (h : fx_E b u) (hv : U.vm = u.vm) (hh : U.heap = u.heap) : fx_E b U := by
  obtain ⟨aK, aV, h1, h2, h3, h4, h5, h6, h7⟩ := h
  have ha : u.vm.Alike U.vm := by rw [hv]; exact Vm.Alike.refl u.vm
  rw [← hh] at h2 h3 h4 h5 h6
  exact ⟨aK, aV, vk_R.same hv h1, va_O.moved ha h2, va_OF.moved ha h3, va_OF.moved ha h4, va_T.moved ha h5, va_Z.moved ha h6, vk_R.same hv h7⟩
end
section
/-! A layer over the kit's rows: the world is a partial map from addresses to cells (Wd), handed whole to every call; locals are a list; MW is a method's contract, AW a place in its walk. -/
abbrev Md : Type := MethodName × ByteArray × Nat × Option FieldType
abbrev Wd : Type := Nat → va_E
abbrev Sc : Type := Option (Nat × Nat × (Nat → Int32))
abbrev cI (D : va_G) (n : Nat) (g : Nat → Int32) : va_E := .inl (D.1 100, n, .inl g)
abbrev cJ (D : va_G) (n : Nat) (g : Nat → Int64) : va_E := .inl (D.1 101, n, .inr (.inl g))
abbrev cB (D : va_G) (n : Nat) (g : Nat → Int32) : va_E := .inl (D.1 102, n, .inl g)
abbrev cZ (D : va_G) (n : Nat) (g : Nat → Int32) : va_E := .inl (D.1 103, n, .inl g)
abbrev cR (D : va_G) (n : Nat) (g : Nat → Option Nat) : va_E := .inl (D.1 104, n, .inr (.inr (.inr (.inr g))))
abbrev cO (ci : Nat) (fs : List Value) : va_E := .inr (ci, fs)
def fx_ty (D : va_G) : List (ClassId × FieldType) := [(D.1 100, .int), (D.1 101, .long), (D.1 102, .byte), (D.1 103, .boolean), (D.1 104, .array .int)]
/-- the world: N cells from b on, and they are all that lies there -/
def VA (D : va_G) (b N : Nat) (V : Wd) (H : Heap) : Prop := H.size = b + N ∧ ∀ i, i < N → va_at D vwCl (b + i, V i) H
theorem va_one {D : va_G} {b N i : Nat} {V : Wd} {H : Heap} {e : va_E} (h : VA D b N V H) (hi : i < N) (he : V i = e) : va_P D vwCl [(b + i, e)] H := by
  intro j q hj
  match j, hj with
  | 0, hj => cases hj; rw [← he]; exact h.2 i hi
  | j + 1, hj => simp at hj
theorem VA.set {D : va_G} {b N i : Nat} {V : Wd} {H H1 : Heap} {e : va_E} (h : VA D b N V H) (he : va_at D vwCl (b + i, e) H1) (z : H1.size = H.size) (oq : ∀ q : Nat, q ≠ b + i → H1[q]? = H[q]?) : VA D b N (va_up V i e) H1 := by
  refine ⟨z.trans h.1, fun j hj => ?_⟩
  by_cases e1 : j = i
  · subst e1; rw [va_up_self]; exact he
  · rw [va_up_ne _ _ e1]
    exact (h.2 j hj).kept (oq (b + j) (by omega))
theorem VA.push {D : va_G} {b N : Nat} {V : Wd} {H H1 : Heap} {e : va_E} (h : VA D b N V H) (he : va_at D vwCl (b + N, e) H1) (z : H1.size = H.size + 1) (oq : ∀ q : Nat, q < H.size → H1[q]? = H[q]?) : VA D b (N + 1) (va_up V N e) H1 := by
  have h1 := h.1
  refine ⟨by omega, fun j hj => ?_⟩
  by_cases e1 : j = N
  · subst e1; rw [va_up_self]; exact he
  · rw [va_up_ne _ _ e1]
    exact (h.2 j (by omega)).kept (oq (b + j) (by show b + j < _; omega))
/-! locals -/
def fx_L (arr : Array Slot) (nL : Nat) (ls : List (Option Value)) : Prop := arr.size = nL ∧ lv_wf arr ∧ ∀ (i : Nat) (v : Value), ls[i]? = some (some v) → arr[i]? = some (.val v)
def fx_as (ls : List (Option Value)) : List (Nat × Value) := (List.range ls.length).filterMap (fun i => (ls[i]?.getD none).map (fun v => (i, v)))
theorem fx_as_mem {ls : List (Option Value)} {q : Nat × Value} : q ∈ fx_as ls ↔ ls[q.1]? = some (some q.2) := by
  unfold fx_as
  rw [List.mem_filterMap]
  constructor
  · rintro ⟨i, hi, h⟩
    cases hx : ls[i]? with
    | none => simp [hx] at h
    | some o =>
      cases o with
      | none => simp [hx] at h
      | some v =>
        simp [hx] at h
        subst h
        exact hx
  · intro h
    refine ⟨q.1, List.mem_range.mpr (List.getElem?_eq_some_iff.mp h).1, ?_⟩
    simp [h]
theorem fx_L.has {arr : Array Slot} {nL : Nat} {ls : List (Option Value)} (h : fx_L arr nL ls) : lv_has arr nL (fx_as ls) := ⟨h.1, h.2.1, fun q hq => h.2.2 q.1 q.2 (fx_as_mem.mp hq)⟩
def fx_kill (ls : List (Option Value)) (i : Nat) : List (Option Value) := match i with
  | 0 => ls
  | j + 1 => match ls[j]? with
    | some (some (.long _)) => ls.set j none
    | some (some (.double _)) => ls.set j none
    | _ => ls
def fx_s1 (ls : List (Option Value)) (i : Nat) (v : Value) : List (Option Value) := (fx_kill ls i).set i (some v)
def fx_s2 (ls : List (Option Value)) (i : Nat) (v : Value) : List (Option Value) := ((fx_kill ls i).set i (some v)).set (i + 1) none
theorem fx_kill_get {ls : List (Option Value)} {i j : Nat} {v : Value} (h : (fx_kill ls i)[j]? = some (some v)) : ls[j]? = some (some v) ∧ ¬ (j + 1 = i ∧ v.category = 2) := by
  unfold fx_kill at h
  cases i with
  | zero => exact ⟨h, fun q => by omega⟩
  | succ i =>
    have key : ∀ (ls' : List (Option Value)), ls' = ls.set i none → ls'[j]? = some (some v) → ls[j]? = some (some v) ∧ ¬ (j + 1 = i + 1 ∧ v.category = 2) := by
      intro ls' e h'
      subst e
      by_cases hj : j = i
      · subst hj
        rw [List.getElem?_set] at h'
        split at h'
        · split at h' <;> cases h'
        · exact absurd rfl ‹_›
      · rw [List.getElem?_set_ne (Ne.symm hj)] at h'
        exact ⟨h', fun q => hj (by omega)⟩
    dsimp only at h
    cases hx : ls[i]? with
    | none =>
      rw [hx] at h
      refine ⟨h, fun q => ?_⟩
      have : j = i := by omega
      subst this
      dsimp only at h
      rw [hx] at h; cases h
    | some o =>
      rw [hx] at h
      cases o with
      | none =>
        dsimp only at h
        refine ⟨h, fun q => ?_⟩
        have : j = i := by omega
        subst this
        rw [hx] at h; cases h
      | some w =>
        cases w with
        | long x => exact key _ rfl h
        | double x => exact key _ rfl h
        | _ =>
          dsimp only at h
          refine ⟨h, fun q => ?_⟩
          have : j = i := by omega
          subst this
          rw [hx] at h
          cases h
          exact absurd q.2 (by simp [Value.category])
theorem fx_s1_of {arr : Array Slot} {nL i : Nat} {ls : List (Option Value)} {v : Value} (h : lv_has arr nL ((i, v) :: (fx_as ls).filter (fun q => !(q.1 == i) && !(q.1 + 1 == i && q.2.category == 2)))) : fx_L arr nL (fx_s1 ls i v) := by
  refine ⟨h.1, h.2.1, fun j w hj => ?_⟩
  unfold fx_s1 at hj
  by_cases e : j = i
  · subst e
    rw [List.getElem?_set] at hj
    split at hj
    · split at hj
      · cases hj; exact h.2.2 (j, _) List.mem_cons_self
      · cases hj
    · exact absurd rfl ‹_›
  · rw [List.getElem?_set_ne (Ne.symm e)] at hj
    obtain ⟨h1, h2⟩ := fx_kill_get hj
    refine h.2.2 (j, w) (List.mem_cons_of_mem _ (List.mem_filter.mpr ⟨fx_as_mem.mpr h1, ?_⟩))
    simp only [Bool.and_eq_true, Bool.not_eq_true', beq_eq_false_iff_ne, ne_eq, Bool.and_eq_false_iff]
    refine ⟨e, ?_⟩
    by_cases e1 : j + 1 = i
    · exact Or.inr (fun e2 => h2 ⟨e1, e2⟩)
    · exact Or.inl e1
theorem fx_s2_of {arr : Array Slot} {nL i : Nat} {ls : List (Option Value)} {v : Value} (h : lv_has arr nL ((i, v) :: (fx_as ls).filter (fun q => !(q.1 == i) && (!(q.1 == i + 1) && !(q.1 + 1 == i && q.2.category == 2))))) : fx_L arr nL (fx_s2 ls i v) := by
  refine ⟨h.1, h.2.1, fun j w hj => ?_⟩
  unfold fx_s2 at hj
  by_cases e0 : j = i + 1
  · subst e0
    rw [List.getElem?_set] at hj
    split at hj
    · split at hj <;> cases hj
    · exact absurd rfl ‹_›
  rw [List.getElem?_set_ne (Ne.symm e0)] at hj
  by_cases e : j = i
  · subst e
    rw [List.getElem?_set] at hj
    split at hj
    · split at hj
      · cases hj; exact h.2.2 (j, _) List.mem_cons_self
      · cases hj
    · exact absurd rfl ‹_›
  · rw [List.getElem?_set_ne (Ne.symm e)] at hj
    obtain ⟨h1, h2⟩ := fx_kill_get hj
    refine h.2.2 (j, w) (List.mem_cons_of_mem _ (List.mem_filter.mpr ⟨fx_as_mem.mpr h1, ?_⟩))
    simp only [Bool.and_eq_true, Bool.not_eq_true', beq_eq_false_iff_ne, ne_eq, Bool.and_eq_false_iff]
    refine ⟨e, e0, ?_⟩
    by_cases e1 : j + 1 = i
    · exact Or.inr (fun e2 => h2 ⟨e1, e2⟩)
    · exact Or.inl e1
def fx_le : List (Option Value) → List (Option Value) → Prop
  | [], _ => True
  | none :: a, _ :: b => fx_le a b
  | some v :: a, some w :: b => v = w ∧ fx_le a b
  | _, _ => False
theorem fx_le_get : ∀ {a b : List (Option Value)}, fx_le a b → ∀ (i : Nat) (v : Value), a[i]? = some (some v) → b[i]? = some (some v)
  | [], _, _, i, v, h => by simp at h
  | none :: a, [], h, i, v, hv => by simp [fx_le] at h
  | none :: a, w :: b, h, 0, v, hv => by simp at hv
  | none :: a, w :: b, h, i + 1, v, hv => by
    simp only [fx_le] at h
    simp only [List.getElem?_cons_succ] at hv ⊢
    exact fx_le_get h i v hv
  | some u :: a, [], h, i, v, hv => by simp [fx_le] at h
  | some u :: a, none :: b, h, i, v, hv => by simp [fx_le] at h
  | some u :: a, some w :: b, h, 0, v, hv => by
    simp only [fx_le] at h
    simp only [List.getElem?_cons_zero] at hv ⊢
    rw [← h.1]; exact hv
  | some u :: a, some w :: b, h, i + 1, v, hv => by
    simp only [fx_le] at h
    simp only [List.getElem?_cons_succ] at hv ⊢
    exact fx_le_get h.2 i v hv
/-! contracts and places -/
def fx_ws (J : Md) : List Cond := Cond.code J.1 J.2.1 J.2.2.1 J.2.2.2 :: fx_TB
def fx_rm (d mc ms : Nat) : Room := { frames := d + 1, cells := mc, slots := ms, locals := 64 * (d + 1) }
def fx_P (D : va_G) (b : Nat) (av : List Value) (N : Nat) (V : Wd) : Array Value → State → Prop := va_Pc av (fun U => va_K D vwCl (fx_ty D) U ∧ VA D b N V U.heap ∧ fx_NS U ∧ fx_E b U)
def fx_Q (D : va_G) (b : Nat) (Q : Option Value → Nat → Wd → Prop) : Array Value → State → Outcome → State → Prop := fun _ st oc t => (∃ (r : Option Value) (N' : Nat) (V' : Wd), oc = .returned r ∧ Q r N' V' ∧ VA D b N' V' t.heap) ∧ va_F (fun q => b ≤ q) st t
def MW (l : Launch) (D : va_G) (b d : Nat) (J : Md) (av : List Value) (N : Nat) (V : Wd) (mc ms : Nat) (Q : Option Value → Nat → Wd → Prop) : Prop := Met l J.1 (fx_ws J) (fx_rm d mc ms) (fx_P D b av N V) (fx_Q D b Q) mc ms (fun q => b ≤ q)
def fx_C (D : va_G) (b : Nat) (J : Md) (X : Sc) (p : Program) (s : State) (m : MethodId) (args : Array Value) (meth : Method) (c : Code) : Prop :=
  p.tables.exec = Jvm.exec ∧ c.code = J.2.1 ∧ meth.sig.returnType = J.2.2.2 ∧ c.maxLocals = J.2.2.1 ∧ s.vm.findClass J.1.cls = some m.cls ∧ (∀ w ∈ fx_ws J, w.before args s = true) ∧ meth.locks = false ∧ meth.name = J.1.name ∧ va_K D vwCl (fx_ty D) s ∧ b ≤ s.heap.size ∧ (∀ b9 L xs, X = some (b9, L, xs) → va_X b9 L xs s s.heap ∧ b9 < s.heap.size ∧ ¬ b ≤ b9) ∧ fx_NS s ∧ fx_E b s
def AW (l : Launch) (D : va_G) (b : Nat) (J : Md) (R : Room) (X : Sc) (FQ : Array Value → List Frame → State → State → Prop) (pc : Nat) (ls : List (Option Value)) (st : List Value) (N : Nat) (V : Wd) (k n : Nat) : Prop :=
  ∀ (p : Program) (e : Env) (s : State) (m : MethodId) (args : Array Value) (below : List Frame) (meth : Method) (c : Code) (H : Heap) (locs : List Loc) (arr : Array Slot), fx_C D b J X p s m args meth c → fx_L arr J.2.2.1 ls → VA D b N V H → va_S (fun q => b ≤ q) s.heap H locs → Jvm.Pilot.@@N@@.W p l e R s m args below meth c H locs k n (FQ args below s) (F0 m pc arr st)
def fx_MQ (D : va_G) (b mc ms : Nat) (Q : Option Value → Nat → Wd → Prop) : Array Value → List Frame → State → State → Prop := fun args below s => MQ below (fx_Q D b Q) args s mc ms (fun q => b ≤ q)
theorem fx_hA {b : Nat} {s : State} (h : b ≤ s.heap.size) : ∀ q, s.heap.size ≤ q → b ≤ q := fun q hq => Nat.le_trans h hq
theorem fx_ents {av : List Value} (h1 : ∀ v ∈ av, v.category = 1) : ∀ (i : Nat) (v : Value), av[i]? = some v → ∀ k, (k + i, v) ∈ lv_args k av := by
  induction av with
  | nil => intro i v h; simp at h
  | cons a av ih =>
    intro i v h k
    have ha : ¬ a.category = 2 := by have := h1 a List.mem_cons_self; omega
    cases i with
    | zero => simp at h; subst h; simp [lv_args]
    | succ i =>
      simp only [List.getElem?_cons_succ] at h
      have := ih (fun v hv => h1 v (List.mem_cons_of_mem _ hv)) i v h (k + 1)
      simp only [lv_args, if_neg ha]
      refine List.mem_cons_of_mem _ ?_
      rw [show k + (i + 1) = k + 1 + i by omega]; exact this
theorem fx_sl1 {av : List Value} (h1 : ∀ v ∈ av, v.category = 1) : (lg_sl av).length = av.length := by
  induction av with
  | nil => rfl
  | cons a av ih =>
    have ha : ¬ a.category = 2 := by have := h1 a List.mem_cons_self; omega
    have := ih (fun v hv => h1 v (List.mem_cons_of_mem _ hv))
    unfold lg_sl at this ⊢
    rw [List.flatMap_cons, if_neg ha]
    simp [this]
def fx_ent (av : List Value) (n : Nat) : List (Option Value) := av.map some ++ List.replicate (n - av.length) none
theorem mw_of {l : Launch} {D : va_G} {b d : Nat} {J : Md} {av : List Value} {N : Nat} {V : Wd} {mc ms : Nat} {Q : Option Value → Nat → Wd → Prop} (hy : plainName J.1.cls = true) (h1 : ∀ v ∈ av, v.category = 1) (hn : av.length ≤ J.2.2.1)
    (h : AW l D b J (fx_rm d mc ms) none (fx_MQ D b mc ms Q) 0 (fx_ent av J.2.2.1) [] N V 0 0) : MW l D b d J av N V mc ms Q := by
  refine Met.ofW (cc := J.2.1) (maxL := J.2.2.1) (ret := J.2.2.2) hy rfl ?_
  intro p e s m args below meth c s₁ B hml hv
  obtain ⟨rfl, hK, hA, hNS, hEn⟩ := hv
  rw [lg_entry_eq]
  have hl := lv_entry av (n := J.2.2.1) (by rw [fx_sl1 h1]; exact hn)
  refine h p e s m av.toArray below meth c s.heap [] _ ⟨B.exec, B.bytes, B.returns, hml, findClass_of_methodNamed B.named, atoms_spec (ws := fx_ws J) B.pre, B.notSynchronized, (name_of_methodNamed B.named B.method).1, hK, by have := hA.1; omega, fun b L xs e => (by cases e), hNS, hEn⟩ ⟨hl.1, hl.2.1, fun i v hi => ?_⟩ hA va_S.rf
  have hav : av[i]? = some v := by
    unfold fx_ent at hi
    by_cases hlt : i < av.length
    · rw [List.getElem?_append_left (by simpa using hlt), List.getElem?_map] at hi
      cases hx : av[i]? with
      | none => rw [hx] at hi; cases hi
      | some w => rw [hx] at hi; cases hi; rfl
    · rw [List.getElem?_append_right (by simpa using hlt), List.getElem?_replicate] at hi
      split at hi <;> cases hi
  have := fx_ents h1 i v hav 0
  rw [Nat.zero_add] at this
  exact hl.2.2 (i, v) this
theorem mw_post {l : Launch} {D : va_G} {b d : Nat} {J : Md} {av : List Value} {N : Nat} {V : Wd} {mc ms : Nat} {Q Q' : Option Value → Nat → Wd → Prop} (h : MW l D b d J av N V mc ms Q) (hQ : ∀ r N' V', Q r N' V' → Q' r N' V') : MW l D b d J av N V mc ms Q' := by
  intro p e a1 a2 a3 s m args below b1 b2 b3 b4
  obtain ⟨t, o, c1, c2, c3, ⟨⟨r, N', V', e1, hq, hA⟩, hF⟩, c5⟩ := h p e a1 a2 a3 s m args below b1 b2 b3 b4
  exact ⟨t, o, c1, c2, c3, ⟨⟨r, N', V', e1, hQ r N' V' hq, hA⟩, hF⟩, c5⟩
section AWV
variable {l : Launch} {D : va_G} {b : Nat} {J : Md} {R : Room} {X : Sc} {FQ : Array Value → List Frame → State → State → Prop} {pc : Nat} {ls ls' : List (Option Value)} {st : List Value} {N : Nat} {V : Wd} {k n : Nat}
theorem aw_le (h1 : fx_le ls' ls) (h : AW l D b J R X FQ pc ls' st N V k n) : AW l D b J R X FQ pc ls st N V k n := fun p e s m args below meth c H locs arr hC hL hA hS => h p e s m args below meth c H locs arr hC ⟨hL.1, hL.2.1, fun i v hv => hL.2.2 i v (fx_le_get h1 i v hv)⟩ hA hS
theorem aw_iconst {i : Int} {v : Int32} (hd : decode J.2.1 pc = .ok (.iconst i, 1)) (hv : Int32.ofInt i = v) (h : AW l D b J R X FQ (pc + 1) ls (.int v :: st) N V k n) : AW l D b J R X FQ pc ls (st) N V k n := fun p e s m args below meth c H locs arr hC hL hA hS => lv_iconst hC.1 hC.2.1 hd hv (h p e s m args below meth c H locs arr hC hL hA hS)
theorem aw_bipush {i : Int} {v : Int32} (hd : decode J.2.1 pc = .ok (.bipush i, 2)) (hv : (Int8.ofInt i).toInt32 = v) (h : AW l D b J R X FQ (pc + 2) ls (.int v :: st) N V k n) : AW l D b J R X FQ pc ls (st) N V k n := fun p e s m args below meth c H locs arr hC hL hA hS => lv_bipush hC.1 hC.2.1 hd hv (h p e s m args below meth c H locs arr hC hL hA hS)
theorem aw_sipush {i : Int} {v : Int32} (hd : decode J.2.1 pc = .ok (.sipush i, 3)) (hv : (Int16.ofInt i).toInt32 = v) (h : AW l D b J R X FQ (pc + 3) ls (.int v :: st) N V k n) : AW l D b J R X FQ pc ls (st) N V k n := fun p e s m args below meth c H locs arr hC hL hA hS => lv_sipush hC.1 hC.2.1 hd hv (h p e s m args below meth c H locs arr hC hL hA hS)
theorem aw_lconst {i : Fin 2} {v : Int64} (hd : decode J.2.1 pc = .ok (.lconst i, 1)) (hv : Int64.ofNat (i : Nat) = v) (h : AW l D b J R X FQ (pc + 1) ls (.long v :: st) N V k n) : AW l D b J R X FQ pc ls (st) N V k n := fun p e s m args below meth c H locs arr hC hL hA hS => lv_lconst hC.1 hC.2.1 hd hv (h p e s m args below meth c H locs arr hC hL hA hS)
theorem aw_iload {i : Nat} {v : Int32} (hd : decode J.2.1 pc = .ok (.iload i, 2)) (hl : ls[i]? = some (some (.int v))) (h : AW l D b J R X FQ (pc + 2) ls (.int v :: st) N V k n) : AW l D b J R X FQ pc ls (st) N V k n := fun p e s m args below meth c H locs arr hC hL hA hS => lv_iload hC.1 hC.2.1 hd (hL.2.2 _ _ hl) (h p e s m args below meth c H locs arr hC hL hA hS)
theorem aw_iload_n {i : Fin 4} {v : Int32} (hd : decode J.2.1 pc = .ok (.iload_n i, 1)) (hl : ls[(i : Nat)]? = some (some (.int v))) (h : AW l D b J R X FQ (pc + 1) ls (.int v :: st) N V k n) : AW l D b J R X FQ pc ls (st) N V k n := fun p e s m args below meth c H locs arr hC hL hA hS => lv_iload_n hC.1 hC.2.1 hd rfl (hL.2.2 _ _ hl) (h p e s m args below meth c H locs arr hC hL hA hS)
theorem aw_aload {i : Nat} {v : Nat} (hd : decode J.2.1 pc = .ok (.aload i, 2)) (hl : ls[i]? = some (some (.ref v))) (h : AW l D b J R X FQ (pc + 2) ls (.ref v :: st) N V k n) : AW l D b J R X FQ pc ls (st) N V k n := fun p e s m args below meth c H locs arr hC hL hA hS => lv_aload hC.1 hC.2.1 hd (hL.2.2 _ _ hl) (h p e s m args below meth c H locs arr hC hL hA hS)
theorem aw_aload_n {i : Fin 4} {v : Nat} (hd : decode J.2.1 pc = .ok (.aload_n i, 1)) (hl : ls[(i : Nat)]? = some (some (.ref v))) (h : AW l D b J R X FQ (pc + 1) ls (.ref v :: st) N V k n) : AW l D b J R X FQ pc ls (st) N V k n := fun p e s m args below meth c H locs arr hC hL hA hS => lv_aload_n hC.1 hC.2.1 hd rfl (hL.2.2 _ _ hl) (h p e s m args below meth c H locs arr hC hL hA hS)
theorem aw_lload {i : Nat} {v : Int64} (hd : decode J.2.1 pc = .ok (.lload i, 2)) (hl : ls[i]? = some (some (.long v))) (h : AW l D b J R X FQ (pc + 2) ls (.long v :: st) N V k n) : AW l D b J R X FQ pc ls (st) N V k n := fun p e s m args below meth c H locs arr hC hL hA hS => lv_lload hC.1 hC.2.1 hd (hL.2.2 _ _ hl) (h p e s m args below meth c H locs arr hC hL hA hS)
theorem aw_lload_n {i : Fin 4} {v : Int64} (hd : decode J.2.1 pc = .ok (.lload_n i, 1)) (hl : ls[(i : Nat)]? = some (some (.long v))) (h : AW l D b J R X FQ (pc + 1) ls (.long v :: st) N V k n) : AW l D b J R X FQ pc ls (st) N V k n := fun p e s m args below meth c H locs arr hC hL hA hS => lv_lload_n hC.1 hC.2.1 hd rfl (hL.2.2 _ _ hl) (h p e s m args below meth c H locs arr hC hL hA hS)
theorem aw_istore {i : Nat} {v : Int32} (hd : decode J.2.1 pc = .ok (.istore i, 2)) (hn : i < J.2.2.1) (hl : fx_s1 ls i (.int v) = ls') (h : AW l D b J R X FQ (pc + 2) ls' st N V k n) : AW l D b J R X FQ pc ls (.int v :: st) N V k n := fun p e s m args below meth c H locs arr hC hL hA hS => lv_istore hC.1 hC.2.1 hd hL.has hn rfl (fun arr' h' => h p e s m args below meth c H locs arr' hC (hl ▸ fx_s1_of h') hA hS)
theorem aw_istore_n {i : Fin 4} {v : Int32} (hd : decode J.2.1 pc = .ok (.istore_n i, 1)) (hn : (i : Nat) < J.2.2.1) (hl : fx_s1 ls (i : Nat) (.int v) = ls') (h : AW l D b J R X FQ (pc + 1) ls' st N V k n) : AW l D b J R X FQ pc ls (.int v :: st) N V k n := fun p e s m args below meth c H locs arr hC hL hA hS => lv_istore_n hC.1 hC.2.1 hd rfl hL.has hn rfl (fun arr' h' => h p e s m args below meth c H locs arr' hC (hl ▸ fx_s1_of h') hA hS)
theorem aw_astore {i : Nat} {v : Nat} (hd : decode J.2.1 pc = .ok (.astore i, 2)) (hn : i < J.2.2.1) (hl : fx_s1 ls i (.ref v) = ls') (h : AW l D b J R X FQ (pc + 2) ls' st N V k n) : AW l D b J R X FQ pc ls (.ref v :: st) N V k n := fun p e s m args below meth c H locs arr hC hL hA hS => lv_astore hC.1 hC.2.1 hd hL.has hn rfl (fun arr' h' => h p e s m args below meth c H locs arr' hC (hl ▸ fx_s1_of h') hA hS)
theorem aw_astore_n {i : Fin 4} {v : Nat} (hd : decode J.2.1 pc = .ok (.astore_n i, 1)) (hn : (i : Nat) < J.2.2.1) (hl : fx_s1 ls (i : Nat) (.ref v) = ls') (h : AW l D b J R X FQ (pc + 1) ls' st N V k n) : AW l D b J R X FQ pc ls (.ref v :: st) N V k n := fun p e s m args below meth c H locs arr hC hL hA hS => lv_astore_n hC.1 hC.2.1 hd rfl hL.has hn rfl (fun arr' h' => h p e s m args below meth c H locs arr' hC (hl ▸ fx_s1_of h') hA hS)
theorem aw_lstore {i : Nat} {v : Int64} (hd : decode J.2.1 pc = .ok (.lstore i, 2)) (hn : i + 1 < J.2.2.1) (hl : fx_s2 ls i (.long v) = ls') (h : AW l D b J R X FQ (pc + 2) ls' st N V k n) : AW l D b J R X FQ pc ls (.long v :: st) N V k n := fun p e s m args below meth c H locs arr hC hL hA hS => lv_lstore hC.1 hC.2.1 hd hL.has hn rfl (fun arr' h' => h p e s m args below meth c H locs arr' hC (hl ▸ fx_s2_of h') hA hS)
theorem aw_lstore_n {i : Fin 4} {v : Int64} (hd : decode J.2.1 pc = .ok (.lstore_n i, 1)) (hn : (i : Nat) + 1 < J.2.2.1) (hl : fx_s2 ls (i : Nat) (.long v) = ls') (h : AW l D b J R X FQ (pc + 1) ls' st N V k n) : AW l D b J R X FQ pc ls (.long v :: st) N V k n := fun p e s m args below meth c H locs arr hC hL hA hS => lv_lstore_n hC.1 hC.2.1 hd rfl hL.has hn rfl (fun arr' h' => h p e s m args below meth c H locs arr' hC (hl ▸ fx_s2_of h') hA hS)
theorem aw_iinc {i : Nat} {c9 : Int} {x v : Int32} (hd : decode J.2.1 pc = .ok (.iinc i c9, 3)) (hx : ls[i]? = some (some (.int x))) (hv : x + Int32.ofInt c9 = v) (hn : i < J.2.2.1) (hl : fx_s1 ls i (.int v) = ls') (h : AW l D b J R X FQ (pc + 3) ls' st N V k n) : AW l D b J R X FQ pc ls st N V k n := by
  intro p e s m args below meth c H locs arr hC hL hA hS
  obtain ⟨j, hj⟩ := List.getElem?_of_mem (fx_as_mem.mpr (show ls[((i, Value.int x) : Nat × Value).1]? = _ from hx))
  exact lv_iinc hC.1 hC.2.1 hd hL.has hj hv hn rfl (fun arr' h' => h p e s m args below meth c H locs arr' hC (hl ▸ fx_s1_of h') hA hS)
theorem aw_iadd {x y : Int32} (hd : decode J.2.1 pc = .ok (.iadd, 1))  (h : AW l D b J R X FQ (pc + 1) ls (.int (x + y) :: st) N V k n) : AW l D b J R X FQ pc ls (.int y :: .int x :: st) N V k n := fun p e s m args below meth c H locs arr hC hL hA hS => lv_iadd hC.1 hC.2.1 hd  (h p e s m args below meth c H locs arr hC hL hA hS)
theorem aw_isub {x y : Int32} (hd : decode J.2.1 pc = .ok (.isub, 1))  (h : AW l D b J R X FQ (pc + 1) ls (.int (x - y) :: st) N V k n) : AW l D b J R X FQ pc ls (.int y :: .int x :: st) N V k n := fun p e s m args below meth c H locs arr hC hL hA hS => lv_isub hC.1 hC.2.1 hd  (h p e s m args below meth c H locs arr hC hL hA hS)
theorem aw_imul {x y : Int32} (hd : decode J.2.1 pc = .ok (.imul, 1))  (h : AW l D b J R X FQ (pc + 1) ls (.int (x * y) :: st) N V k n) : AW l D b J R X FQ pc ls (.int y :: .int x :: st) N V k n := fun p e s m args below meth c H locs arr hC hL hA hS => lv_imul hC.1 hC.2.1 hd  (h p e s m args below meth c H locs arr hC hL hA hS)
theorem aw_iand {x y : Int32} (hd : decode J.2.1 pc = .ok (.iand, 1))  (h : AW l D b J R X FQ (pc + 1) ls (.int (x &&& y) :: st) N V k n) : AW l D b J R X FQ pc ls (.int y :: .int x :: st) N V k n := fun p e s m args below meth c H locs arr hC hL hA hS => lv_iand hC.1 hC.2.1 hd  (h p e s m args below meth c H locs arr hC hL hA hS)
theorem aw_ior {x y : Int32} (hd : decode J.2.1 pc = .ok (.ior, 1))  (h : AW l D b J R X FQ (pc + 1) ls (.int (x ||| y) :: st) N V k n) : AW l D b J R X FQ pc ls (.int y :: .int x :: st) N V k n := fun p e s m args below meth c H locs arr hC hL hA hS => lv_ior hC.1 hC.2.1 hd  (h p e s m args below meth c H locs arr hC hL hA hS)
theorem aw_ixor {x y : Int32} (hd : decode J.2.1 pc = .ok (.ixor, 1))  (h : AW l D b J R X FQ (pc + 1) ls (.int (x ^^^ y) :: st) N V k n) : AW l D b J R X FQ pc ls (.int y :: .int x :: st) N V k n := fun p e s m args below meth c H locs arr hC hL hA hS => lv_ixor hC.1 hC.2.1 hd  (h p e s m args below meth c H locs arr hC hL hA hS)
theorem aw_ishl {x y : Int32} (hd : decode J.2.1 pc = .ok (.ishl, 1))  (h : AW l D b J R X FQ (pc + 1) ls (.int (x <<< (y &&& 31)) :: st) N V k n) : AW l D b J R X FQ pc ls (.int y :: .int x :: st) N V k n := fun p e s m args below meth c H locs arr hC hL hA hS => lv_ishl hC.1 hC.2.1 hd  (h p e s m args below meth c H locs arr hC hL hA hS)
theorem aw_ishr {x y : Int32} (hd : decode J.2.1 pc = .ok (.ishr, 1))  (h : AW l D b J R X FQ (pc + 1) ls (.int (x >>> (y &&& 31)) :: st) N V k n) : AW l D b J R X FQ pc ls (.int y :: .int x :: st) N V k n := fun p e s m args below meth c H locs arr hC hL hA hS => lv_ishr hC.1 hC.2.1 hd  (h p e s m args below meth c H locs arr hC hL hA hS)
theorem aw_idiv {x y : Int32} (hd : decode J.2.1 pc = .ok (.idiv, 1)) (hne : ¬ y = 0) (h : AW l D b J R X FQ (pc + 1) ls (.int (x / y) :: st) N V k n) : AW l D b J R X FQ pc ls (.int y :: .int x :: st) N V k n := fun p e s m args below meth c H locs arr hC hL hA hS => lv_idiv hC.1 hC.2.1 hd hne (h p e s m args below meth c H locs arr hC hL hA hS)
theorem aw_irem {x y : Int32} (hd : decode J.2.1 pc = .ok (.irem, 1)) (hne : ¬ y = 0) (h : AW l D b J R X FQ (pc + 1) ls (.int (x - x / y * y) :: st) N V k n) : AW l D b J R X FQ pc ls (.int y :: .int x :: st) N V k n := fun p e s m args below meth c H locs arr hC hL hA hS => lv_irem hC.1 hC.2.1 hd hne (h p e s m args below meth c H locs arr hC hL hA hS)
theorem aw_iushr {x y v : Int32} (hd : decode J.2.1 pc = .ok (.iushr, 1)) (hv : (x.toUInt32 >>> (y.toUInt32 &&& Int32.toUInt32 31)).toInt32 = v) (h : AW l D b J R X FQ (pc + 1) ls (.int v :: st) N V k n) : AW l D b J R X FQ pc ls (.int y :: .int x :: st) N V k n := fun p e s m args below meth c H locs arr hC hL hA hS => lv_iushr hC.1 hC.2.1 hd hv (h p e s m args below meth c H locs arr hC hL hA hS)
theorem aw_ineg {x : Int32} (hd : decode J.2.1 pc = .ok (.ineg, 1))  (h : AW l D b J R X FQ (pc + 1) ls (.int (-x) :: st) N V k n) : AW l D b J R X FQ pc ls (.int x :: st) N V k n := fun p e s m args below meth c H locs arr hC hL hA hS => lv_ineg hC.1 hC.2.1 hd  (h p e s m args below meth c H locs arr hC hL hA hS)
theorem aw_ladd {x y : Int64} (hd : decode J.2.1 pc = .ok (.ladd, 1))  (h : AW l D b J R X FQ (pc + 1) ls (.long (x + y) :: st) N V k n) : AW l D b J R X FQ pc ls (.long y :: .long x :: st) N V k n := fun p e s m args below meth c H locs arr hC hL hA hS => lv_ladd hC.1 hC.2.1 hd  (h p e s m args below meth c H locs arr hC hL hA hS)
theorem aw_lsub {x y : Int64} (hd : decode J.2.1 pc = .ok (.lsub, 1))  (h : AW l D b J R X FQ (pc + 1) ls (.long (x - y) :: st) N V k n) : AW l D b J R X FQ pc ls (.long y :: .long x :: st) N V k n := fun p e s m args below meth c H locs arr hC hL hA hS => lv_lsub hC.1 hC.2.1 hd  (h p e s m args below meth c H locs arr hC hL hA hS)
theorem aw_lmul {x y : Int64} (hd : decode J.2.1 pc = .ok (.lmul, 1))  (h : AW l D b J R X FQ (pc + 1) ls (.long (x * y) :: st) N V k n) : AW l D b J R X FQ pc ls (.long y :: .long x :: st) N V k n := fun p e s m args below meth c H locs arr hC hL hA hS => lv_lmul hC.1 hC.2.1 hd  (h p e s m args below meth c H locs arr hC hL hA hS)
theorem aw_lcmp {x y : Int64} (hd : decode J.2.1 pc = .ok (.lcmp, 1))  (h : AW l D b J R X FQ (pc + 1) ls (.int (lg_cmp x y) :: st) N V k n) : AW l D b J R X FQ pc ls (.long y :: .long x :: st) N V k n := fun p e s m args below meth c H locs arr hC hL hA hS => W.lcmp hC.1 hC.2.1 hd  (h p e s m args below meth c H locs arr hC hL hA hS)
theorem aw_i2l {x : Int32} {v : Int64} (hd : decode J.2.1 pc = .ok (.i2l, 1)) (hv : x.toInt64 = v) (h : AW l D b J R X FQ (pc + 1) ls (.long v :: st) N V k n) : AW l D b J R X FQ pc ls (.int x :: st) N V k n := fun p e s m args below meth c H locs arr hC hL hA hS => lv_i2l hC.1 hC.2.1 hd hv (h p e s m args below meth c H locs arr hC hL hA hS)
theorem aw_l2i {x : Int64} {v : Int32} (hd : decode J.2.1 pc = .ok (.l2i, 1)) (hv : x.toInt32 = v) (h : AW l D b J R X FQ (pc + 1) ls (.int v :: st) N V k n) : AW l D b J R X FQ pc ls (.long x :: st) N V k n := fun p e s m args below meth c H locs arr hC hL hA hS => lv_l2i hC.1 hC.2.1 hd hv (h p e s m args below meth c H locs arr hC hL hA hS)
theorem aw_i2b {x v : Int32} (hd : decode J.2.1 pc = .ok (.i2b, 1)) (hv : x.toInt8.toInt32 = v) (h : AW l D b J R X FQ (pc + 1) ls (.int v :: st) N V k n) : AW l D b J R X FQ pc ls (.int x :: st) N V k n := fun p e s m args below meth c H locs arr hC hL hA hS => lv_i2b hC.1 hC.2.1 hd hv (h p e s m args below meth c H locs arr hC hL hA hS)
theorem aw_i2c {x v : Int32} (hd : decode J.2.1 pc = .ok (.i2c, 1)) (hv : (x.toUInt32 % 65536).toInt32 = v) (h : AW l D b J R X FQ (pc + 1) ls (.int v :: st) N V k n) : AW l D b J R X FQ pc ls (.int x :: st) N V k n := fun p e s m args below meth c H locs arr hC hL hA hS => lv_i2c hC.1 hC.2.1 hd hv (h p e s m args below meth c H locs arr hC hL hA hS)
theorem aw_dup {va : Value} (hd : decode J.2.1 pc = .ok (.dup, 1)) (hv : va.category = 1) (h : AW l D b J R X FQ (pc + 1) ls (va :: va :: st) N V k n) : AW l D b J R X FQ pc ls (va :: st) N V k n := fun p e s m args below meth c H locs arr hC hL hA hS => lv_dup hC.1 hC.2.1 hd hv (h p e s m args below meth c H locs arr hC hL hA hS)
theorem aw_pop {va : Value} (hd : decode J.2.1 pc = .ok (.pop, 1)) (hv : va.category = 1) (h : AW l D b J R X FQ (pc + 1) ls (st) N V k n) : AW l D b J R X FQ pc ls (va :: st) N V k n := fun p e s m args below meth c H locs arr hC hL hA hS => lv_pop hC.1 hC.2.1 hd hv (h p e s m args below meth c H locs arr hC hL hA hS)
theorem aw_dup2 {va vb : Value} (hd : decode J.2.1 pc = .ok (.dup2, 1)) (hv : va.category = 1) (hw : vb.category = 1) (h : AW l D b J R X FQ (pc + 1) ls (va :: vb :: va :: vb :: st) N V k n) : AW l D b J R X FQ pc ls (va :: vb :: st) N V k n := fun p e s m args below meth c H locs arr hC hL hA hS => lv_dup2_11 hC.1 hC.2.1 hd hv hw (h p e s m args below meth c H locs arr hC hL hA hS)
theorem aw_dup_x1 {va vb : Value} (hd : decode J.2.1 pc = .ok (.dup_x1, 1)) (hv : va.category = 1) (hw : vb.category = 1) (h : AW l D b J R X FQ (pc + 1) ls (va :: vb :: va :: st) N V k n) : AW l D b J R X FQ pc ls (va :: vb :: st) N V k n := fun p e s m args below meth c H locs arr hC hL hA hS => lv_dup_x1 hC.1 hC.2.1 hd hv hw (h p e s m args below meth c H locs arr hC hL hA hS)
theorem aw_dup_x2 {va vb vd : Value} (hd : decode J.2.1 pc = .ok (.dup_x2, 1)) (hv : va.category = 1) (hw : vb.category = 1) (hz : vd.category = 1) (h : AW l D b J R X FQ (pc + 1) ls (va :: vb :: vd :: va :: st) N V k n) : AW l D b J R X FQ pc ls (va :: vb :: vd :: st) N V k n := fun p e s m args below meth c H locs arr hC hL hA hS => lv_dup_x2 hC.1 hC.2.1 hd hv hw hz (h p e s m args below meth c H locs arr hC hL hA hS)
theorem aw_goto {off : Int} {tgt : Nat} (hd : decode J.2.1 pc = .ok (.goto off, 3)) (ht : (pc : Int) + off = (tgt : Int)) (h : AW l D b J R X FQ tgt ls st N V k n) : AW l D b J R X FQ pc ls st N V k n := fun p e s m args below meth c H locs arr hC hL hA hS => lv_goto hC.1 hC.2.1 hd ht (h p e s m args below meth c H locs arr hC hL hA hS)
theorem aw_if_eq {x : Int32} {off : Int} {tgt : Nat} (hd : decode J.2.1 pc = .ok (.ifCond .eq off, 3)) (ht : (pc : Int) + off = (tgt : Int)) (h1 : x = 0 → AW l D b J R X FQ tgt ls st N V k n) (h2 : ¬ x = 0 → AW l D b J R X FQ (pc + 3) ls st N V k n) : AW l D b J R X FQ pc ls (.int x :: st) N V k n := fun p e s m args below meth c H locs arr hC hL hA hS => lv_if_eq hC.1 hC.2.1 hd ht (fun z => h1 z p e s m args below meth c H locs arr hC hL hA hS) (fun z => h2 z p e s m args below meth c H locs arr hC hL hA hS)
theorem aw_if_ne {x : Int32} {off : Int} {tgt : Nat} (hd : decode J.2.1 pc = .ok (.ifCond .ne off, 3)) (ht : (pc : Int) + off = (tgt : Int)) (h1 : ¬ x = 0 → AW l D b J R X FQ tgt ls st N V k n) (h2 : x = 0 → AW l D b J R X FQ (pc + 3) ls st N V k n) : AW l D b J R X FQ pc ls (.int x :: st) N V k n := fun p e s m args below meth c H locs arr hC hL hA hS => lv_if_ne hC.1 hC.2.1 hd ht (fun z => h1 z p e s m args below meth c H locs arr hC hL hA hS) (fun z => h2 z p e s m args below meth c H locs arr hC hL hA hS)
theorem aw_if_lt {x : Int32} {off : Int} {tgt : Nat} (hd : decode J.2.1 pc = .ok (.ifCond .lt off, 3)) (ht : (pc : Int) + off = (tgt : Int)) (h1 : x < 0 → AW l D b J R X FQ tgt ls st N V k n) (h2 : ¬ x < 0 → AW l D b J R X FQ (pc + 3) ls st N V k n) : AW l D b J R X FQ pc ls (.int x :: st) N V k n := fun p e s m args below meth c H locs arr hC hL hA hS => lv_if_lt hC.1 hC.2.1 hd ht (fun z => h1 z p e s m args below meth c H locs arr hC hL hA hS) (fun z => h2 z p e s m args below meth c H locs arr hC hL hA hS)
theorem aw_if_ge {x : Int32} {off : Int} {tgt : Nat} (hd : decode J.2.1 pc = .ok (.ifCond .ge off, 3)) (ht : (pc : Int) + off = (tgt : Int)) (h1 : 0 ≤ x → AW l D b J R X FQ tgt ls st N V k n) (h2 : ¬ 0 ≤ x → AW l D b J R X FQ (pc + 3) ls st N V k n) : AW l D b J R X FQ pc ls (.int x :: st) N V k n := fun p e s m args below meth c H locs arr hC hL hA hS => lv_if_ge hC.1 hC.2.1 hd ht (fun z => h1 z p e s m args below meth c H locs arr hC hL hA hS) (fun z => h2 z p e s m args below meth c H locs arr hC hL hA hS)
theorem aw_if_gt {x : Int32} {off : Int} {tgt : Nat} (hd : decode J.2.1 pc = .ok (.ifCond .gt off, 3)) (ht : (pc : Int) + off = (tgt : Int)) (h1 : 0 < x → AW l D b J R X FQ tgt ls st N V k n) (h2 : ¬ 0 < x → AW l D b J R X FQ (pc + 3) ls st N V k n) : AW l D b J R X FQ pc ls (.int x :: st) N V k n := fun p e s m args below meth c H locs arr hC hL hA hS => lv_if_gt hC.1 hC.2.1 hd ht (fun z => h1 z p e s m args below meth c H locs arr hC hL hA hS) (fun z => h2 z p e s m args below meth c H locs arr hC hL hA hS)
theorem aw_if_le {x : Int32} {off : Int} {tgt : Nat} (hd : decode J.2.1 pc = .ok (.ifCond .le off, 3)) (ht : (pc : Int) + off = (tgt : Int)) (h1 : x ≤ 0 → AW l D b J R X FQ tgt ls st N V k n) (h2 : ¬ x ≤ 0 → AW l D b J R X FQ (pc + 3) ls st N V k n) : AW l D b J R X FQ pc ls (.int x :: st) N V k n := fun p e s m args below meth c H locs arr hC hL hA hS => lv_if_le hC.1 hC.2.1 hd ht (fun z => h1 z p e s m args below meth c H locs arr hC hL hA hS) (fun z => h2 z p e s m args below meth c H locs arr hC hL hA hS)
theorem aw_icmp_eq {x y : Int32} {off : Int} {tgt : Nat} (hd : decode J.2.1 pc = .ok (.if_icmp .eq off, 3)) (ht : (pc : Int) + off = (tgt : Int)) (h1 : x = y → AW l D b J R X FQ tgt ls st N V k n) (h2 : ¬ x = y → AW l D b J R X FQ (pc + 3) ls st N V k n) : AW l D b J R X FQ pc ls (.int y :: .int x :: st) N V k n := fun p e s m args below meth c H locs arr hC hL hA hS => lv_icmp_eq hC.1 hC.2.1 hd ht (fun z => h1 z p e s m args below meth c H locs arr hC hL hA hS) (fun z => h2 z p e s m args below meth c H locs arr hC hL hA hS)
theorem aw_icmp_ne {x y : Int32} {off : Int} {tgt : Nat} (hd : decode J.2.1 pc = .ok (.if_icmp .ne off, 3)) (ht : (pc : Int) + off = (tgt : Int)) (h1 : ¬ x = y → AW l D b J R X FQ tgt ls st N V k n) (h2 : x = y → AW l D b J R X FQ (pc + 3) ls st N V k n) : AW l D b J R X FQ pc ls (.int y :: .int x :: st) N V k n := fun p e s m args below meth c H locs arr hC hL hA hS => lv_icmp_ne hC.1 hC.2.1 hd ht (fun z => h1 z p e s m args below meth c H locs arr hC hL hA hS) (fun z => h2 z p e s m args below meth c H locs arr hC hL hA hS)
theorem aw_icmp_lt {x y : Int32} {off : Int} {tgt : Nat} (hd : decode J.2.1 pc = .ok (.if_icmp .lt off, 3)) (ht : (pc : Int) + off = (tgt : Int)) (h1 : x < y → AW l D b J R X FQ tgt ls st N V k n) (h2 : ¬ x < y → AW l D b J R X FQ (pc + 3) ls st N V k n) : AW l D b J R X FQ pc ls (.int y :: .int x :: st) N V k n := fun p e s m args below meth c H locs arr hC hL hA hS => lv_icmp_lt hC.1 hC.2.1 hd ht (fun z => h1 z p e s m args below meth c H locs arr hC hL hA hS) (fun z => h2 z p e s m args below meth c H locs arr hC hL hA hS)
theorem aw_icmp_ge {x y : Int32} {off : Int} {tgt : Nat} (hd : decode J.2.1 pc = .ok (.if_icmp .ge off, 3)) (ht : (pc : Int) + off = (tgt : Int)) (h1 : y ≤ x → AW l D b J R X FQ tgt ls st N V k n) (h2 : ¬ y ≤ x → AW l D b J R X FQ (pc + 3) ls st N V k n) : AW l D b J R X FQ pc ls (.int y :: .int x :: st) N V k n := fun p e s m args below meth c H locs arr hC hL hA hS => lv_icmp_ge hC.1 hC.2.1 hd ht (fun z => h1 z p e s m args below meth c H locs arr hC hL hA hS) (fun z => h2 z p e s m args below meth c H locs arr hC hL hA hS)
theorem aw_icmp_gt {x y : Int32} {off : Int} {tgt : Nat} (hd : decode J.2.1 pc = .ok (.if_icmp .gt off, 3)) (ht : (pc : Int) + off = (tgt : Int)) (h1 : y < x → AW l D b J R X FQ tgt ls st N V k n) (h2 : ¬ y < x → AW l D b J R X FQ (pc + 3) ls st N V k n) : AW l D b J R X FQ pc ls (.int y :: .int x :: st) N V k n := fun p e s m args below meth c H locs arr hC hL hA hS => lv_icmp_gt hC.1 hC.2.1 hd ht (fun z => h1 z p e s m args below meth c H locs arr hC hL hA hS) (fun z => h2 z p e s m args below meth c H locs arr hC hL hA hS)
theorem aw_icmp_le {x y : Int32} {off : Int} {tgt : Nat} (hd : decode J.2.1 pc = .ok (.if_icmp .le off, 3)) (ht : (pc : Int) + off = (tgt : Int)) (h1 : x ≤ y → AW l D b J R X FQ tgt ls st N V k n) (h2 : ¬ x ≤ y → AW l D b J R X FQ (pc + 3) ls st N V k n) : AW l D b J R X FQ pc ls (.int y :: .int x :: st) N V k n := fun p e s m args below meth c H locs arr hC hL hA hS => lv_icmp_le hC.1 hC.2.1 hd ht (fun z => h1 z p e s m args below meth c H locs arr hC hL hA hS) (fun z => h2 z p e s m args below meth c H locs arr hC hL hA hS)
theorem aw_tableIn {dflt lo hi : Int} {offs : Array Int} {len : Nat} {x : Int32} {off : Int} {tgt : Nat} (hd : decode J.2.1 pc = .ok (.tableswitch dflt lo hi offs, len)) (h1 : ¬ x.toInt < lo) (h2 : ¬ hi < x.toInt) (ho : offs[(x.toInt - lo).toNat]? = some off) (ht : (pc : Int) + off = (tgt : Int)) (h : AW l D b J R X FQ tgt ls st N V k n) : AW l D b J R X FQ pc ls (.int x :: st) N V k n := fun p e s m args below meth c H locs arr hC hL hA hS => lv_tableIn hC.1 hC.2.1 hd h1 h2 ho ht (h p e s m args below meth c H locs arr hC hL hA hS)
theorem aw_tableOut {dflt lo hi : Int} {offs : Array Int} {len : Nat} {x : Int32} {tgt : Nat} (hd : decode J.2.1 pc = .ok (.tableswitch dflt lo hi offs, len)) (h1 : x.toInt < lo ∨ hi < x.toInt) (ht : (pc : Int) + dflt = (tgt : Int)) (h : AW l D b J R X FQ tgt ls st N V k n) : AW l D b J R X FQ pc ls (.int x :: st) N V k n := fun p e s m args below meth c H locs arr hC hL hA hS => lv_tableOut hC.1 hC.2.1 hd h1 ht (h p e s m args below meth c H locs arr hC hL hA hS)
theorem aw_lookup {dflt : Int} {ps : Array (Int × Int)} {len : Nat} {x : Int32} {off : Int} {tgt : Nat} (hd : decode J.2.1 pc = .ok (.lookupswitch dflt ps, len)) (hp : (ps.toList.zip (ps.toList.drop 1)).all (fun (a, next) => a.1 < next.1) = true) (ho : Op.lookupswitch.offset ps.toList dflt x.toInt = off) (ht : (pc : Int) + off = (tgt : Int)) (h : AW l D b J R X FQ tgt ls st N V k n) : AW l D b J R X FQ pc ls (.int x :: st) N V k n := fun p e s m args below meth c H locs arr hC hL hA hS => lv_lookup hC.1 hC.2.1 hd hp ho ht (h p e s m args below meth c H locs arr hC hL hA hS)
theorem aw_ldc {i : Nat} {v : Int32} (hd : decode J.2.1 pc = .ok (.ldc i, 2)) (hw : Cond.constant J.1.cls i v ∈ fx_TB) (h : AW l D b J R X FQ (pc + 2) ls (.int v :: st) N V k n) : AW l D b J R X FQ pc ls st N V k n := fun p e s m args below meth c H locs arr hC hL hA hS => lv_ldc hC.1 hC.2.1 hC.2.2.2.2.1 (hC.2.2.2.2.2.1 _ (List.mem_cons_of_mem _ hw)) hd (h p e s m args below meth c H locs arr hC hL hA hS)
theorem aw_ldcw {i : Nat} {v : Int32} (hd : decode J.2.1 pc = .ok (.ldc_w i, 3)) (hw : Cond.constant J.1.cls i v ∈ fx_TB) (h : AW l D b J R X FQ (pc + 3) ls (.int v :: st) N V k n) : AW l D b J R X FQ pc ls st N V k n := fun p e s m args below meth c H locs arr hC hL hA hS => lv_ldcw hC.1 hC.2.1 hC.2.2.2.2.1 (hC.2.2.2.2.2.1 _ (List.mem_cons_of_mem _ hw)) hd (h p e s m args below meth c H locs arr hC hL hA hS)
theorem aw_ldc2 {i : Nat} {v : Int64} (hd : decode J.2.1 pc = .ok (.ldc2_w i, 3)) (hw : Cond.constantLong J.1.cls i v ∈ fx_TB) (h : AW l D b J R X FQ (pc + 3) ls (.long v :: st) N V k n) : AW l D b J R X FQ pc ls st N V k n := fun p e s m args below meth c H locs arr hC hL hA hS => lv_ldc2 hC.1 hC.2.1 hC.2.2.2.2.1 (hC.2.2.2.2.2.1 _ (List.mem_cons_of_mem _ hw)) hd (h p e s m args below meth c H locs arr hC hL hA hS)
/-- a name for a computed top of the stack -/
theorem aw_topi {x : Int32} (h : ∀ y : Int32, y = x → AW l D b J R X FQ pc ls (.int y :: st) N V k n) : AW l D b J R X FQ pc ls (.int x :: st) N V k n := h x rfl
theorem aw_eqi {x y : Int32} (e : x = y) (h : AW l D b J R X FQ pc ls (.int y :: st) N V k n) : AW l D b J R X FQ pc ls (.int x :: st) N V k n := e ▸ h
theorem aw_eql {x y : Int64} (e : x = y) (h : AW l D b J R X FQ pc ls (.long y :: st) N V k n) : AW l D b J R X FQ pc ls (.long x :: st) N V k n := e ▸ h
theorem aw_wd {V' : Wd} (e : V = V') (h : AW l D b J R X FQ pc ls st N V' k n) : AW l D b J R X FQ pc ls st N V k n := e ▸ h
/-! fields -/
def fx_fl (own : String) (idx ci k : Nat) : Prop := ∃ (C : String) (T : u_T) (N : Nat), vwCl[ci]? = some (C, T, N) ∧ k < N ∧ (∀ w ∈ u_ws C T N, w ∈ fx_TB) ∧ (Cond.fieldLink own idx (T k).1 (T k).2.1 (T k).2.2.1 ∈ fx_TB ∨ (∃ host, Cond.fieldLinkNest own idx (T k).1 (T k).2.1 (T k).2.2.1 host ∈ fx_NW) ∨ ∃ ref, Cond.fieldLink own idx ref (T k).2.1 (T k).2.2.1 ∈ fx_TB ∧ Cond.sameField ref (T k).1 (T k).2.1 (T k).2.2.1 ∈ fx_TB)
def fx_fp (own : String) (idx ci k : Nat) (ty : FieldType) (fin : Bool) : Prop := ∃ (C : String) (T : u_T) (N : Nat) (ty0 : Nat → FieldType), vwCl[ci]? = some (C, T, N) ∧ k < N ∧ (∀ w ∈ u_ws C T N, w ∈ fx_TB) ∧ (∀ k, k < N → parseFieldDescriptor (T k).2.2.1 = some (ty0 k)) ∧ (∀ a, a < N → ∀ b, b < N → a ≠ b → (T a).2.1 ≠ (T b).2.1) ∧ (T k).2.2.2 = fin ∧ parseFieldDescriptor (T k).2.2.1 = some ty ∧ (fin = true → (T k).1 = own) ∧ (Cond.fieldLink own idx (T k).1 (T k).2.1 (T k).2.2.1 ∈ fx_TB ∨ (fin = false ∧ ∃ host, Cond.fieldLinkNest own idx (T k).1 (T k).2.1 (T k).2.2.1 host ∈ fx_NW))
theorem aw_get {i ci kk idx : Nat} {fs : List Value} {v : Value} (hd : decode J.2.1 pc = .ok (.getfield idx, 3)) (hf : fx_fl J.1.cls idx ci kk) (he : V i = cO ci fs) (hi : i < N) (hv : fs[kk]? = some v) (h : AW l D b J R X FQ (pc + 3) ls (v :: st) N V k n) : AW l D b J R X FQ pc ls (.ref (b + i) :: st) N V k n := by
  intro p e s m args below meth c H locs arr hC hL hA hS
  obtain ⟨hx, hb, hr, hml, hown, hts, hlk, hnm, hK, hsz, hX, hNS, hEn⟩ := id hC
  obtain ⟨C, T, N, hc, hk, hin, hl⟩ := hf
  rcases hl with hl | ⟨host, hl⟩ | ⟨ref, hl, hsm⟩
  · exact va_get hx hb hts (fun w hw => List.mem_cons_of_mem _ (hin w hw)) hown hK (va_one hA hi he) 0 rfl hc kk hk (hts _ (List.mem_cons_of_mem _ hl)) (fun x hx => hx) hv hd (h p e s m args below meth c H locs arr hC hL hA hS)
  · exact va_getN (host := host) hx hb hts (fun w hw => List.mem_cons_of_mem _ (hin w hw)) hown hK (va_one hA hi he) 0 rfl hc kk hk (hNS.use hl) (fun x hx => hx) hv hd (h p e s m args below meth c H locs arr hC hL hA hS)
  · exact va_get hx hb hts (fun w hw => List.mem_cons_of_mem _ (hin w hw)) hown hK (va_one hA hi he) 0 rfl hc kk hk (hts _ (List.mem_cons_of_mem _ hl)) (fun x hx => u_same (hts _ (List.mem_cons_of_mem _ hsm)) x hx) hv hd (h p e s m args below meth c H locs arr hC hL hA hS)
theorem aw_put {i ci kk idx : Nat} {fs fs' : List Value} {v : Value} {ty : FieldType} (hd : decode J.2.1 pc = .ok (.putfield idx, 3)) (hf : fx_fp J.1.cls idx ci kk ty false) (he : V i = cO ci fs) (hi : i < N) (hn : narrow ty v = v) (hfit : fits ty v = true) (hl : kk < fs.length) (hs : fs.set kk v = fs') (h : AW l D b J R X FQ (pc + 3) ls st N (va_up V i (cO ci fs')) k n) : AW l D b J R X FQ pc ls (v :: .ref (b + i) :: st) N V k n := by
  intro p e s m args below meth c H locs arr hC hL hA hS
  obtain ⟨hx, hb, hr, hml, hown, hts, hlk, hnm, hK, hsz, hX, hNS, hEn⟩ := id hC
  obtain ⟨C, T, N9, ty0, hc, hk, hin, hty, hnm2, hfin, hpd, hdec, hlk2⟩ := hf
  subst hs
  have hin' : ∀ w ∈ u_ws C T N9, w ∈ fx_ws J := fun w hw => List.mem_cons_of_mem _ (hin w hw)
  have hap := va_apart (own := J.1.cls) hts hin' ty0 hty hnm2 hK hc
  obtain ⟨r, h1, cell, q1, q2, q3, q4⟩ := va_one hA hi he 0 _ rfl
  have hr9 : r = (C, T, N9) := Option.some.inj (h1.symm.trans hc)
  subst hr9
  obtain ⟨hS9, hfc, kC, hkC, hkind⟩ := hK.1 ci _ hc
  obtain ⟨cf, kf, fi, f9, hi9, hsl⟩ := hS9 kk hk
  have hlay := hts _ (hin' _ (u_in_lay hk))
  unfold u_lay at hlay
  have hst := (u_facts hfc hkC (u_lays hts hin' hk) hi9).1
  rw [if_neg (by rw [hfin]; decide)] at hlay
  have h6 := u_store hfc hkC hkind hlay hi9 hpd hn hfit
  rcases hlk2 with hl2 | ⟨-, host, hl2⟩
  · refine W.putK hx hb (f := f9) ⟨hown, hts _ (List.mem_cons_of_mem _ hl2), ⟨_, _, _, hi9⟩, hst⟩ (by rw [q2]; exact h6) q1 q3 (by rw [hsl]; exact k2_hasslot (q4 kk hk)) rfl rfl hd fun H' e1 e2 e3 => ?_
    rw [hsl] at e1 ⊢
    exact h p e s m args below meth c H' _ arr hC hL (hA.set ⟨_, hc, t_OB.to (V := updV (vp_V fs) kk v) ⟨_, e1, q2, q3, t_set q4 hap hk v⟩ (fun j _ => vp_updV_set hl v j)⟩ e2 e3) (hS.put e2 e3 (Nat.le_add_right b i))
  · refine va_WputK hx hb (f := f9) hown (hNS.use hl2) hi9 hst (by rw [q2]; exact h6) q1 q3 (by rw [hsl]; exact k2_hasslot (q4 kk hk)) rfl rfl hd fun H' e1 e2 e3 => ?_
    rw [hsl] at e1 ⊢
    exact h p e s m args below meth c H' _ arr hC hL (hA.set ⟨_, hc, t_OB.to (V := updV (vp_V fs) kk v) ⟨_, e1, q2, q3, t_set q4 hap hk v⟩ (fun j _ => vp_updV_set hl v j)⟩ e2 e3) (hS.put e2 e3 (Nat.le_add_right b i))
theorem aw_putF {i ci kk idx : Nat} {fs fs' : List Value} {v : Value} {ty : FieldType} (hd : decode J.2.1 pc = .ok (.putfield idx, 3)) (hf : fx_fp J.1.cls idx ci kk ty true) (hini : J.1.name = "<init>") (he : V i = cO ci fs) (hi : i < N) (hn : narrow ty v = v) (hfit : fits ty v = true) (hl : kk < fs.length) (hs : fs.set kk v = fs') (h : AW l D b J R X FQ (pc + 3) ls st N (va_up V i (cO ci fs')) k n) : AW l D b J R X FQ pc ls (v :: .ref (b + i) :: st) N V k n := by
  intro p e s m args below meth c H locs arr hC hL hA hS
  obtain ⟨hx, hb, hr, hml, hown, hts, hlk, hnm, hK, hsz, hX, hNS, hEn⟩ := id hC
  obtain ⟨C, T, N9, ty0, hc, hk, hin, hty, hnm2, hfin, hpd, hdec, hlk2⟩ := hf
  subst hs
  have hin' : ∀ w ∈ u_ws C T N9, w ∈ fx_ws J := fun w hw => List.mem_cons_of_mem _ (hin w hw)
  have hap := va_apart (own := J.1.cls) hts hin' ty0 hty hnm2 hK hc
  obtain ⟨r, h1, cell, q1, q2, q3, q4⟩ := va_one hA hi he 0 _ rfl
  have hr9 : r = (C, T, N9) := Option.some.inj (h1.symm.trans hc)
  subst hr9
  obtain ⟨hS9, hfc, kC, hkC, hkind⟩ := hK.1 ci _ hc
  obtain ⟨cf, kf, fi, f9, hi9, hsl⟩ := hS9 kk hk
  have hlay := hts _ (hin' _ (u_in_lay hk))
  unfold u_lay at hlay
  have hst := (u_facts hfc hkC (u_lays hts hin' hk) hi9).1
  rw [if_pos hfin] at hlay
  have hcf : m.cls = cf := by
    obtain ⟨_, _, c', _, _, _, -, -, hf', -, -, -, hown2, -⟩ := Cond.laysFinal_spec hlay
    have e1 : c' = cf := by have := hi9.symm.trans hf'; simp at this; exact this.1.symm
    rw [hdec rfl] at hown2
    rw [← e1]; exact Option.some.inj (hown.symm.trans hown2)
  have h6 := u_fits hfc hkC hkind (Or.inr hlay) hi9 hpd hn hfit
  rcases hlk2 with hl2 | ⟨h9, -⟩
  · refine W.putFinK hx hb hown (hts _ (List.mem_cons_of_mem _ hl2)) hi9 hst hcf (hnm.trans hini) (by rw [q2]; exact h6) q1 q3 (by rw [hsl]; exact k2_hasslot (q4 kk hk)) rfl rfl hd fun H' e1 e2 e3 => ?_
    rw [hsl] at e1 ⊢
    exact h p e s m args below meth c H' _ arr hC hL (hA.set ⟨_, hc, t_OB.to (V := updV (vp_V fs) kk v) ⟨_, e1, q2, q3, t_set q4 hap hk v⟩ (fun j _ => vp_updV_set hl v j)⟩ e2 e3) (hS.put e2 e3 (Nat.le_add_right b i))
  · cases h9
def fx_nw (own : String) (idx ci : Nat) (fs : List Value) : Prop := ∃ (C : String) (T : u_T) (N : Nat) (ty : Nat → FieldType), vwCl[ci]? = some (C, T, N) ∧ (∀ w ∈ u_ws C T N, w ∈ fx_TB) ∧ (∀ k, k < N → parseFieldDescriptor (T k).2.2.1 = some (ty k)) ∧ Cond.classLink own idx C ∈ fx_TB ∧ Cond.instantiable C N ∈ fx_TB ∧ Cond.initialized C ∈ fx_TB ∧ (∀ j, j < N → defaultValue (ty j) = vp_V fs j) ∧ fs.length = N
/-! arrays -/
theorem aw_iald {a n9 : Nat} {g : Nat → Int32} {i : Int32} {v : Int32} (hd : decode J.2.1 pc = .ok (.iaload, 1)) (he : V a = cI D n9 g) (hi : a < N) (hin : vp_in i n9) (hv : g i.toNatClampNeg = v) (h : AW l D b J R X FQ (pc + 1) ls (.int v :: st) N V k n) : AW l D b J R X FQ pc ls (.int i :: .ref (b + a) :: st) N V k n := by
  intro p e s m args below meth c H locs arr hC hL hA hS
  obtain ⟨hx, hb, hr, hml, hown, hts, hlk, hnm, hK, hsz, hX, hNS, hEn⟩ := id hC
  subst hv
  exact va_iald hx hb hK (va_one hA hi he) 0 0 rfl rfl hin hd (h p e s m args below meth c H locs arr hC hL hA hS)
theorem aw_bald {a n9 : Nat} {g : Nat → Int32} {i : Int32} {v : Int32} (hd : decode J.2.1 pc = .ok (.baload, 1)) (he : V a = cB D n9 g) (hi : a < N) (hin : vp_in i n9) (hv : g i.toNatClampNeg = v) (h : AW l D b J R X FQ (pc + 1) ls (.int v :: st) N V k n) : AW l D b J R X FQ pc ls (.int i :: .ref (b + a) :: st) N V k n := by
  intro p e s m args below meth c H locs arr hC hL hA hS
  obtain ⟨hx, hb, hr, hml, hown, hts, hlk, hnm, hK, hsz, hX, hNS, hEn⟩ := id hC
  subst hv
  exact va_bald hx hb hK (va_one hA hi he) 0 2 rfl rfl hin hd (h p e s m args below meth c H locs arr hC hL hA hS)
theorem aw_zald {a n9 : Nat} {g : Nat → Int32} {i : Int32} {v : Int32} (hd : decode J.2.1 pc = .ok (.baload, 1)) (he : V a = cZ D n9 g) (hi : a < N) (hin : vp_in i n9) (hv : g i.toNatClampNeg = v) (h : AW l D b J R X FQ (pc + 1) ls (.int v :: st) N V k n) : AW l D b J R X FQ pc ls (.int i :: .ref (b + a) :: st) N V k n := by
  intro p e s m args below meth c H locs arr hC hL hA hS
  obtain ⟨hx, hb, hr, hml, hown, hts, hlk, hnm, hK, hsz, hX, hNS, hEn⟩ := id hC
  subst hv
  exact va_zald hx hb hK (va_one hA hi he) 0 3 rfl rfl hin hd (h p e s m args below meth c H locs arr hC hL hA hS)
theorem aw_lald {a n9 : Nat} {g : Nat → Int64} {i : Int32} {v : Int64} (hd : decode J.2.1 pc = .ok (.laload, 1)) (he : V a = cJ D n9 g) (hi : a < N) (hin : vp_in i n9) (hv : g i.toNatClampNeg = v) (h : AW l D b J R X FQ (pc + 1) ls (.long v :: st) N V k n) : AW l D b J R X FQ pc ls (.int i :: .ref (b + a) :: st) N V k n := by
  intro p e s m args below meth c H locs arr hC hL hA hS
  obtain ⟨hx, hb, hr, hml, hown, hts, hlk, hnm, hK, hsz, hX, hNS, hEn⟩ := id hC
  subst hv
  exact va_lald hx hb hK (va_one hA hi he) 0 1 rfl rfl hin hd (h p e s m args below meth c H locs arr hC hL hA hS)
theorem aw_iast {a n9 : Nat} {g : Nat → Int32} {i : Int32} {x : Int32} (hd : decode J.2.1 pc = .ok (.iastore, 1)) (he : V a = cI D n9 g) (hi : a < N) (hin : vp_in i n9) (h : AW l D b J R X FQ (pc + 1) ls st N (va_up V a (cI D n9 (upd g i.toNatClampNeg x))) k n) : AW l D b J R X FQ pc ls (.int x :: .int i :: .ref (b + a) :: st) N V k n := by
  intro p e s m args below meth c H locs arr hC hL hA hS
  obtain ⟨hx, hb, hr, hml, hown, hts, hlk, hnm, hK, hsz, hX, hNS, hEn⟩ := id hC
  refine W.iast hx hb (va_one hA hi he 0 _ rfl) ((hK.2 0 _ rfl).1 n9 (fun j => .int (g j))) (fun q => by cases q) (by show ¬ (i < 0 ∨ (arrV _ _ _).slots.size ≤ _); rw [arrV_size]; exact hin) rfl rfl hd fun H1 e9 z oq => ?_
  refine h p e s m args below meth c H1 _ arr hC hL (hA.set ?_ z oq) (hS.put z oq (Nat.le_add_right b a))
  show H1[b + a]? = some (vp_cell _ _)
  rw [e9]
  rw [vp_cell_i, vp_cell_i, arrV_store]
  congr 2
  funext q
  by_cases hq : q = i.toNatClampNeg
  · subst hq
    simp [updV, upd]
  · simp [updV, upd, hq]
theorem aw_bast {a n9 : Nat} {g : Nat → Int32} {i : Int32} {x : Int32} (hd : decode J.2.1 pc = .ok (.bastore, 1)) (he : V a = cB D n9 g) (hi : a < N) (hin : vp_in i n9) (h : AW l D b J R X FQ (pc + 1) ls st N (va_up V a (cB D n9 (upd g i.toNatClampNeg (vp_nar .byte x)))) k n) : AW l D b J R X FQ pc ls (.int x :: .int i :: .ref (b + a) :: st) N V k n := by
  intro p e s m args below meth c H locs arr hC hL hA hS
  obtain ⟨hx, hb, hr, hml, hown, hts, hlk, hnm, hK, hsz, hX, hNS, hEn⟩ := id hC
  refine W.bast hx hb (va_one hA hi he 0 _ rfl) ((hK.2 2 _ rfl).1 n9 (fun j => .int (g j))) (fun q => by cases q) (by show ¬ (i < 0 ∨ (arrV _ _ _).slots.size ≤ _); rw [arrV_size]; exact hin) rfl rfl hd fun H1 e9 z oq => ?_
  refine h p e s m args below meth c H1 _ arr hC hL (hA.set ?_ z oq) (hS.put z oq (Nat.le_add_right b a))
  show H1[b + a]? = some (vp_cell _ _)
  rw [e9]
  rw [vp_cell_i, vp_cell_i, arrV_store]
  congr 2
  funext q
  by_cases hq : q = i.toNatClampNeg
  · subst hq
    simp [updV, upd, vp_nar]
    try rfl
  · simp [updV, upd, hq]
theorem aw_zast {a n9 : Nat} {g : Nat → Int32} {i : Int32} {x : Int32} (hd : decode J.2.1 pc = .ok (.bastore, 1)) (he : V a = cZ D n9 g) (hi : a < N) (hin : vp_in i n9) (h : AW l D b J R X FQ (pc + 1) ls st N (va_up V a (cZ D n9 (upd g i.toNatClampNeg (vp_nar .boolean x)))) k n) : AW l D b J R X FQ pc ls (.int x :: .int i :: .ref (b + a) :: st) N V k n := by
  intro p e s m args below meth c H locs arr hC hL hA hS
  obtain ⟨hx, hb, hr, hml, hown, hts, hlk, hnm, hK, hsz, hX, hNS, hEn⟩ := id hC
  refine W.zast hx hb (va_one hA hi he 0 _ rfl) ((hK.2 3 _ rfl).1 n9 (fun j => .int (g j))) (fun q => by cases q) (by show ¬ (i < 0 ∨ (arrV _ _ _).slots.size ≤ _); rw [arrV_size]; exact hin) rfl rfl hd fun H1 e9 z oq => ?_
  refine h p e s m args below meth c H1 _ arr hC hL (hA.set ?_ z oq) (hS.put z oq (Nat.le_add_right b a))
  show H1[b + a]? = some (vp_cell _ _)
  rw [e9]
  rw [vp_cell_i, vp_cell_i, arrV_store]
  congr 2
  funext q
  by_cases hq : q = i.toNatClampNeg
  · subst hq
    simp [updV, upd, vp_nar]
    try rfl
  · simp [updV, upd, hq]
theorem aw_last {a n9 : Nat} {g : Nat → Int64} {i : Int32} {x : Int64} (hd : decode J.2.1 pc = .ok (.lastore, 1)) (he : V a = cJ D n9 g) (hi : a < N) (hin : vp_in i n9) (h : AW l D b J R X FQ (pc + 1) ls st N (va_up V a (cJ D n9 (vp_updL g i.toNatClampNeg x))) k n) : AW l D b J R X FQ pc ls (.long x :: .int i :: .ref (b + a) :: st) N V k n := by
  intro p e s m args below meth c H locs arr hC hL hA hS
  obtain ⟨hx, hb, hr, hml, hown, hts, hlk, hnm, hK, hsz, hX, hNS, hEn⟩ := id hC
  refine W.last hx hb (va_one hA hi he 0 _ rfl) ((hK.2 1 _ rfl).1 n9 (fun j => .long (g j))) (fun q => by cases q) (by show ¬ (i < 0 ∨ (arrV _ _ _).slots.size ≤ _); rw [arrV_size]; exact hin) rfl rfl hd fun H1 e9 z oq => ?_
  refine h p e s m args below meth c H1 _ arr hC hL (hA.set ?_ z oq) (hS.put z oq (Nat.le_add_right b a))
  show H1[b + a]? = some (vp_cell _ _)
  rw [e9]
  rw [vp_cell_l, vp_cell_l, arrV_store]
  congr 2
  funext q
  by_cases hq : q = i.toNatClampNeg
  · subst hq
    simp [updV, vp_updL]
  · simp [updV, vp_updL, hq]
theorem aw_aald {a n9 r : Nat} {g : Nat → Option Nat} {i : Int32} (hd : decode J.2.1 pc = .ok (.aaload, 1)) (he : V a = cR D n9 g) (hi : a < N) (hin : vp_in i n9) (hv : g i.toNatClampNeg = some r) (h : AW l D b J R X FQ (pc + 1) ls (.ref r :: st) N V k n) : AW l D b J R X FQ pc ls (.int i :: .ref (b + a) :: st) N V k n := by
  intro p e s m args below meth c H locs arr hC hL hA hS
  obtain ⟨hx, hb, hr, hml, hown, hts, hlk, hnm, hK, hsz, hX, hNS, hEn⟩ := id hC
  have hlt : i.toNatClampNeg < n9 := Nat.not_le.mp fun q => hin (Or.inr q)
  have hP := va_one hA hi he
  exact W.aald (v := .ref r) (ty := .array .int) hx hb (hP 0 _ rfl) ((hK.2 4 _ rfl).1 n9 (fun j => va_rf (g j))) rfl (fun q => by cases q) (by show ¬ (i < 0 ∨ (arrV _ _ _).slots.size ≤ _); rw [arrV_size]; exact hin) (by show (arrV _ _ _).slots[_]? = _; rw [arrV_read _ _ hlt, hv]; rfl) rfl rfl hd (h p e s m args below meth c H locs arr hC hL hA hS)
theorem aw_alen {i : Nat} {cA : ClassId} {x : vp_A} {t0 : Nat} {ty : FieldType} {v : Int32} (hd : decode J.2.1 pc = .ok (.arraylength, 1)) (he : V i = .inl (cA, x)) (hi : i < N) (ht : (fx_ty D)[t0]? = some (cA, ty)) (hv : Int32.ofNat x.1 = v) (h : AW l D b J R X FQ (pc + 1) ls (.int v :: st) N V k n) : AW l D b J R X FQ pc ls (.ref (b + i) :: st) N V k n := by
  intro p e s m args below meth c H locs arr hC hL hA hS
  obtain ⟨hx, hb, hr, hml, hown, hts, hlk, hnm, hK, hsz, hX, hNS, hEn⟩ := id hC
  subst hv
  exact va_alen hx hb hK (va_one hA hi he) 0 t0 rfl ht rfl hd (h p e s m args below meth c H locs arr hC hL hA hS)
theorem aw_sld {b9 L : Nat} {xs : Nat → Int32} {i : Int32} (hd : decode J.2.1 pc = .ok (.iaload, 1)) (he : X = some (b9, L, xs)) (hin : vp_in i L) (h : AW l D b J R X FQ (pc + 1) ls (.int (xs i.toNatClampNeg) :: st) N V k n) : AW l D b J R X FQ pc ls (.int i :: .ref b9 :: st) N V k n := by
  intro p e s m args below meth c H locs arr hC hL hA hS
  obtain ⟨hx, hb, hr, hml, hown, hts, hlk, hnm, hK, hsz, hX, hNS, hEn⟩ := id hC
  obtain ⟨x1, x2, x3⟩ := hX b9 L xs he
  exact va_sld hx hb x1 x2 x3 hS hin hd (h p e s m args below meth c H locs arr hC hL hA hS)
theorem aw_slen {b9 L : Nat} {xs : Nat → Int32} (hd : decode J.2.1 pc = .ok (.arraylength, 1)) (he : X = some (b9, L, xs)) (h : AW l D b J R X FQ (pc + 1) ls (.int (Int32.ofNat L) :: st) N V k n) : AW l D b J R X FQ pc ls (.ref b9 :: st) N V k n := by
  intro p e s m args below meth c H locs arr hC hL hA hS
  obtain ⟨hx, hb, hr, hml, hown, hts, hlk, hnm, hK, hsz, hX, hNS, hEn⟩ := id hC
  obtain ⟨x1, x2, x3⟩ := hX b9 L xs he
  exact va_slen hx hb x1 x2 x3 hS hd (h p e s m args below meth c H locs arr hC hL hA hS)
theorem aw_new {ci idx : Nat} {fs : List Value} (hd : decode J.2.1 pc = .ok (.new idx, 3)) (hn : fx_nw J.1.cls idx ci fs) (hk1 : k + 1 ≤ R.cells) (hs1 : n + fs.length ≤ R.slots) (h : AW l D b J R X FQ (pc + 3) ls (.ref (b + N) :: st) (N + 1) (va_up V N (cO ci fs)) (k + 1) (n + fs.length)) : AW l D b J R X FQ pc ls st N V k n := by
  intro p e s m args below meth c H locs arr hC hL hA hS
  obtain ⟨hx, hb, hr, hml, hown, hts, hlk, hnm, hK, hsz, hX, hNS, hEn⟩ := id hC
  obtain ⟨C, T, N9, ty, hc, hin, hty, h1, h2, h3, h4, h5⟩ := hn
  subst h5
  have hin' : ∀ w ∈ u_ws C T fs.length, w ∈ fx_ws J := fun w hw => List.mem_cons_of_mem _ (hin w hw)
  have hKn := hK.1 ci _ hc
  refine W.newcK hx hb hown (hts _ (List.mem_cons_of_mem _ h1)) (hts _ (List.mem_cons_of_mem _ h2)) (hts _ (List.mem_cons_of_mem _ h3)) rfl hd hk1 hs1 hKn.2.1 rfl fun H1 kC hkC e1 z1 o1 => ?_
  have hsz := hA.1
  rw [hsz] at e1 ⊢
  exact h p e s m args below meth c H1 locs arr hC hL (hA.push ⟨_, hc, (u_born ty hts hin' hKn hkC e1 hty).to h4⟩ z1 o1) ⟨Nat.le_trans hS.1 (by omega), fun x g1 g2 => (o1 x (Nat.lt_of_lt_of_le g1 hS.1)).trans (hS.2.1 x g1 g2), hS.2.2⟩
theorem aw_newaI {len : Int32} {n9 : Nat} (hd : decode J.2.1 pc = .ok (.newarray .int, 2)) (hw : Cond.arrayClass .int ∈ fx_TB) (h0 : ¬ len < 0) (hN : len.toNatClampNeg = n9) (hb9 : n9 * 8 ≤ 536870912) (hk1 : k + 1 ≤ R.cells) (hs1 : n + n9 ≤ R.slots) (h : AW l D b J R X FQ (pc + 2) ls (.ref (b + N) :: st) (N + 1) (va_up V N (cI D n9 (fun _ => 0))) (k + 1) (n + n9)) : AW l D b J R X FQ pc ls (.int len :: st) N V k n := by
  intro p e s m args below meth c H locs arr hC hL hA hS
  obtain ⟨hx, hb, hr, hml, hown, hts, hlk, hnm, hK, hsz, hX, hNS, hEn⟩ := id hC
  have hsz := hA.1
  refine va_newaK (atype := .int) hx hb (hts _ (List.mem_cons_of_mem _ hw)) rfl hd rfl h0 hN (by simp [componentBytes, newarray.typeOf]; omega) hk1 hs1 hsz fun H1 cA e1 z1 o1 hAr hNm => ?_
  have e2 := (hK.2 0 _ rfl).2
  have e3 : some cA = some (D.1 100) := hNm.symm.trans e2
  cases e3
  refine h p e s m args below meth c H1 locs arr hC hL (hA.push ?_ (by omega) (fun q hq => o1 q (by omega))) ⟨Nat.le_trans hS.1 (by omega), fun x g1 g2 => (o1 x (by have := Nat.lt_of_lt_of_le g1 hS.1; omega)).trans (hS.2.1 x g1 g2), hS.2.2⟩
  exact e1
theorem aw_newaJ {len : Int32} {n9 : Nat} (hd : decode J.2.1 pc = .ok (.newarray .long, 2)) (hw : Cond.arrayClass .long ∈ fx_TB) (h0 : ¬ len < 0) (hN : len.toNatClampNeg = n9) (hb9 : n9 * 8 ≤ 536870912) (hk1 : k + 1 ≤ R.cells) (hs1 : n + n9 ≤ R.slots) (h : AW l D b J R X FQ (pc + 2) ls (.ref (b + N) :: st) (N + 1) (va_up V N (cJ D n9 (fun _ => 0))) (k + 1) (n + n9)) : AW l D b J R X FQ pc ls (.int len :: st) N V k n := by
  intro p e s m args below meth c H locs arr hC hL hA hS
  obtain ⟨hx, hb, hr, hml, hown, hts, hlk, hnm, hK, hsz, hX, hNS, hEn⟩ := id hC
  have hsz := hA.1
  refine va_newaK (atype := .long) hx hb (hts _ (List.mem_cons_of_mem _ hw)) rfl hd rfl h0 hN (by simp [componentBytes, newarray.typeOf]; omega) hk1 hs1 hsz fun H1 cA e1 z1 o1 hAr hNm => ?_
  have e2 := (hK.2 1 _ rfl).2
  have e3 : some cA = some (D.1 101) := hNm.symm.trans e2
  cases e3
  refine h p e s m args below meth c H1 locs arr hC hL (hA.push ?_ (by omega) (fun q hq => o1 q (by omega))) ⟨Nat.le_trans hS.1 (by omega), fun x g1 g2 => (o1 x (by have := Nat.lt_of_lt_of_le g1 hS.1; omega)).trans (hS.2.1 x g1 g2), hS.2.2⟩
  exact e1
theorem aw_newaB {len : Int32} {n9 : Nat} (hd : decode J.2.1 pc = .ok (.newarray .byte, 2)) (hw : Cond.arrayClass .byte ∈ fx_TB) (h0 : ¬ len < 0) (hN : len.toNatClampNeg = n9) (hb9 : n9 * 8 ≤ 536870912) (hk1 : k + 1 ≤ R.cells) (hs1 : n + n9 ≤ R.slots) (h : AW l D b J R X FQ (pc + 2) ls (.ref (b + N) :: st) (N + 1) (va_up V N (cB D n9 (fun _ => 0))) (k + 1) (n + n9)) : AW l D b J R X FQ pc ls (.int len :: st) N V k n := by
  intro p e s m args below meth c H locs arr hC hL hA hS
  obtain ⟨hx, hb, hr, hml, hown, hts, hlk, hnm, hK, hsz, hX, hNS, hEn⟩ := id hC
  have hsz := hA.1
  refine va_newaK (atype := .byte) hx hb (hts _ (List.mem_cons_of_mem _ hw)) rfl hd rfl h0 hN (by simp [componentBytes, newarray.typeOf]; omega) hk1 hs1 hsz fun H1 cA e1 z1 o1 hAr hNm => ?_
  have e2 := (hK.2 2 _ rfl).2
  have e3 : some cA = some (D.1 102) := hNm.symm.trans e2
  cases e3
  refine h p e s m args below meth c H1 locs arr hC hL (hA.push ?_ (by omega) (fun q hq => o1 q (by omega))) ⟨Nat.le_trans hS.1 (by omega), fun x g1 g2 => (o1 x (by have := Nat.lt_of_lt_of_le g1 hS.1; omega)).trans (hS.2.1 x g1 g2), hS.2.2⟩
  exact e1
theorem aw_newaZ {len : Int32} {n9 : Nat} (hd : decode J.2.1 pc = .ok (.newarray .boolean, 2)) (hw : Cond.arrayClass .boolean ∈ fx_TB) (h0 : ¬ len < 0) (hN : len.toNatClampNeg = n9) (hb9 : n9 * 8 ≤ 536870912) (hk1 : k + 1 ≤ R.cells) (hs1 : n + n9 ≤ R.slots) (h : AW l D b J R X FQ (pc + 2) ls (.ref (b + N) :: st) (N + 1) (va_up V N (cZ D n9 (fun _ => 0))) (k + 1) (n + n9)) : AW l D b J R X FQ pc ls (.int len :: st) N V k n := by
  intro p e s m args below meth c H locs arr hC hL hA hS
  obtain ⟨hx, hb, hr, hml, hown, hts, hlk, hnm, hK, hsz, hX, hNS, hEn⟩ := id hC
  have hsz := hA.1
  refine va_newaK (atype := .boolean) hx hb (hts _ (List.mem_cons_of_mem _ hw)) rfl hd rfl h0 hN (by simp [componentBytes, newarray.typeOf]; omega) hk1 hs1 hsz fun H1 cA e1 z1 o1 hAr hNm => ?_
  have e2 := (hK.2 3 _ rfl).2
  have e3 : some cA = some (D.1 103) := hNm.symm.trans e2
  cases e3
  refine h p e s m args below meth c H1 locs arr hC hL (hA.push ?_ (by omega) (fun q hq => o1 q (by omega))) ⟨Nat.le_trans hS.1 (by omega), fun x g1 g2 => (o1 x (by have := Nat.lt_of_lt_of_le g1 hS.1; omega)).trans (hS.2.1 x g1 g2), hS.2.2⟩
  exact e1
theorem aw_mna {idx : Nat} {rn ck : Int32} {N9 K9 : Nat} (hd : decode J.2.1 pc = .ok (.multianewarray idx 2, 4)) (hw : Cond.arrayClass .int ∈ fx_TB) (hv : Cond.arrayOver (.array .int) ∈ fx_NW) (hcl : Cond.classLink J.1.cls idx "[[I" ∈ fx_TB) (h0 : ¬ rn < 0) (h1 : ¬ ck < 0) (hN : rn.toNatClampNeg = N9) (hM : ck.toNatClampNeg = K9) (hb1 : N9 * 4 ≤ 536870912) (hb2 : K9 * 4 ≤ 536870912) (hk1 : k + (1 + N9) ≤ R.cells) (hs1 : n + (N9 + N9 * K9) ≤ R.slots) (h : AW l D b J R X FQ (pc + 4) ls (.ref (b + N) :: st) (N + (1 + N9)) (fun i => if i = N then cR D N9 (fun j => if j < N9 then some (b + (N + 1 + j)) else none) else if N < i ∧ i < N + (1 + N9) then cI D K9 (fun _ => 0) else V i) (k + 1 + N9) (n + N9 + N9 * K9)) : AW l D b J R X FQ pc ls (.int ck :: .int rn :: st) N V k n := by
  intro p e s m args below meth c H locs arr hC hL hA hS
  obtain ⟨hx, hb, hr, hml, hown, hts, hlk, hnm, hK, hsz, hX, hNS, hEn⟩ := id hC
  subst hN
  subst hM
  intro T hT Xs
  obtain ⟨vm₁, cA, comp, -, fA, fC, hO, -, X', step⟩ := Xs.multianewarray2F hx (ty := .int) hown (hts _ (List.mem_cons_of_mem _ hcl)) (hNS.use hv) (hts _ (List.mem_cons_of_mem _ hw)) (g := F0 m pc arr (.int ck :: .int rn :: st)) rfl (by rw [hb]; exact hd) rfl h0 h1 hb1 hb2 (by omega) rfl rfl hk1 hs1
  have e2 := (hK.2 4 _ rfl).2
  have e3 : some cA = some (D.1 104) := fA.symm.trans e2
  cases e3
  have e4 := (hK.2 0 _ rfl).2
  have e5 : some comp = some (D.1 100) := fC.symm.trans e4
  cases e5
  generalize hF : Jvm.Free.Multi.fill (T.setVm vm₁) (D.1 104) (D.1 100) rn.toNatClampNeg ck.toNatClampNeg (defaultValue .int) rn.toNatClampNeg = F at X' step
  have hTh : (T.setVm vm₁).heap = H := hT
  obtain ⟨f1, f2, -, -⟩ := Jvm.Free.Multi.fill_facts (T.setVm vm₁) (D.1 104) (D.1 100) rn.toNatClampNeg ck.toNatClampNeg (defaultValue .int) rn.toNatClampNeg
  rw [hF, hTh] at f1 f2
  have hold : ∀ x : Nat, x < H.size → F.heap[x]? = H[x]? := fun x hx => by
    have := Jvm.Free.Multi.fill_old (T.setVm vm₁) (D.1 104) (D.1 100) rn.toNatClampNeg ck.toNatClampNeg (defaultValue .int) (a := x) (by rw [hTh]; exact hx) rn.toNatClampNeg
    rw [hF, hTh] at this
    exact this
  have hrow : ∀ j : Nat, j < rn.toNatClampNeg → F.heap[H.size + 1 + j]? = some (vp_cell (D.1 100) (ck.toNatClampNeg, .inl (fun _ => 0))) := fun j hj => by
    have := Jvm.Free.Multi.fill_inner (T.setVm vm₁) (D.1 104) (D.1 100) rn.toNatClampNeg ck.toNatClampNeg (defaultValue .int) rn.toNatClampNeg j hj
    rw [hF, hTh] at this
    rw [this, vp_cell_i, ← arrV_new]
    rfl
  have hout : Jvm.Free.Multi.outerC (D.1 104) rn.toNatClampNeg H.size rn.toNatClampNeg = vp_cell (D.1 104) (rn.toNatClampNeg, .inr (.inr (.inr (.inr (fun i => if i < rn.toNatClampNeg then some (H.size + 1 + i) else none))))) := by
    rw [vp_cell_q]
    exact vr_outer (D.1 104) rn.toNatClampNeg H.size rn.toNatClampNeg
  rw [hout] at f2
  have hsz := hA.1
  have hA2 : VA D b (N + (1 + rn.toNatClampNeg)) (fun i => if i = N then cR D rn.toNatClampNeg (fun j => if j < rn.toNatClampNeg then some (b + (N + 1 + j)) else none) else if N < i ∧ i < N + (1 + rn.toNatClampNeg) then cI D ck.toNatClampNeg (fun _ => 0) else V i) F.heap := by
    refine ⟨by rw [f1]; omega, fun i hi => ?_⟩
    by_cases c1 : i = N
    · subst c1
      simp only [if_pos rfl]
      show F.heap[b + i]? = _
      rw [← hsz, f2]
      refine congrArg some (congrArg _ ?_)
      refine congrArg (fun z => ((rn.toNatClampNeg, .inr (.inr (.inr (.inr z)))) : vp_A)) ?_
      funext j
      rw [hsz]
      by_cases hj : j < rn.toNatClampNeg
      · rw [if_pos hj, if_pos hj]; exact congrArg some (by omega)
      · rw [if_neg hj, if_neg hj]
    · by_cases c2 : N < i ∧ i < N + (1 + rn.toNatClampNeg)
      · simp only [if_neg c1, if_pos c2]
        show F.heap[b + i]? = _
        have := hrow (i - N - 1) (by omega)
        rw [show H.size + 1 + (i - N - 1) = b + i by omega] at this
        exact this
      · simp only [if_neg c1, if_neg c2]
        exact (hA.2 i (by omega)).kept (hold (b + i) (by show b + i < _; omega))
  obtain ⟨t, a1, b1⟩ := h p e s m args below meth c F.heap locs arr hC hL hA2 ⟨by rw [f1]; have := hS.1; omega, fun x h1 h2 => (hold x (Nat.lt_of_lt_of_le h1 hS.1)).trans (hS.2.1 x h1 h2), hS.2.2⟩ F rfl X'
  refine ⟨t, step t ?_, b1⟩
  have e : T.heap.size = b + N := by rw [hT]; exact hsz
  rw [e]
  exact a1
/-! calls -/
theorem fx_call {s : State} {p : Program} {e : Env} {m : MethodId} {args : Array Value} {below : List Frame} {meth : Method} {c : Code} {H : Heap} {locs : List Loc} {arr : Array Slot} {Qw : State → Prop} {Q : Option Value → Nat → Wd → Prop} {mc ms : Nat} {st0 rest : List Value} {a : Array Value}
    (hr : va_Run p l e R s m args below meth c H locs k n mc ms (F0 m pc arr st0) rest (fx_Q D b Q a) (fun q => b ≤ q)) (hS : va_S (fun q => b ≤ q) s.heap H locs)
    (kk : ∀ (v : Option Value) (N' : Nat) (V' : Wd), Q v N' V' → ∀ (H1 : Heap) (locs1 : List Loc), VA D b N' V' H1 → va_S (fun q => b ≤ q) s.heap H1 locs1 → Jvm.Pilot.@@N@@.W p l e R s m args below meth c H1 locs1 (k + mc) (n + ms) Qw (F0 m (pc + 3) arr (v.toList ++ rest))) : Jvm.Pilot.@@N@@.W p l e R s m args below meth c H locs k n Qw (F0 m pc arr st0) := by
  intro T hT X
  obtain ⟨v, st₀, t, T', L, h0, X', hL, e1, e2, ⟨⟨r, N', V', hv, hp, hb⟩, hz, hk⟩, st⟩ := hr T hT X
  cases hv
  rw [h0] at hz hk
  obtain ⟨t2, a1, b1⟩ := kk v N' V' hp T'.heap (locs ++ L) (by rw [e1]; exact hb)
    ⟨Nat.le_trans hS.1 (by rw [e1]; exact hz), fun q h1 h2 => by rw [e1, hk q (Nat.lt_of_lt_of_le h1 hS.1) h2]; exact hS.2.1 q h1 h2, fun q hq => by
      rcases List.mem_append.mp hq with h | h
      · exact hS.2.2 q h
      · exact hL q h⟩ T' rfl X'
  exact ⟨t2, st t2 a1, b1⟩
theorem fx_goodIn {J J' : Md} (hc : Cond.code J'.1 J'.2.1 J'.2.2.1 J'.2.2.2 ∈ fx_TB) {xs : List Cond} (hx : ∀ w ∈ xs, w ∈ fx_TB) : GoodIn (fx_ws J) (xs ++ fx_ws J') := by
  intro w hw
  have : w ∈ fx_TB := by
    rcases List.mem_append.mp hw with h | h
    · exact hx w h
    · rcases List.mem_cons.mp h with h | h
      · subst h; exact hc
      · exact h
  exact ⟨List.mem_cons_of_mem _ this, fx_good this⟩
theorem fx_blind {av : List Value} : FrameBlind (fx_P D b av N V) := fun a U g mk q => by
  obtain ⟨q0, q2, q3, q4, q5⟩ := q
  exact ⟨q0, va_K.moved (u := U) (U := U.calling g mk a) (Vm.Alike.refl U.vm) q2, q3, q4.same (u := U) (U := U.calling g mk a) rfl, q5.same (u := U) (U := U.calling g mk a) rfl rfl⟩
theorem fx_pre {s : State} {H : Heap} {av : List Value} (hK : va_K D vwCl (fx_ty D) s) (hA : VA D b N V H) (hNS : fx_NS s) (hEn : fx_E b s) {locs : List Loc} (hS : va_S (fun q => b ≤ q) s.heap H locs) : ∀ U : State, U.heap = H → s.WarmedH U.vm → fx_P D b av N V av.toArray U := fun U hU hW => ⟨rfl, va_K.moved hW.alike hK, (by rw [hU]; exact hA), hNS.warm hW, hEn.to hW (by rw [hU]; exact hS)⟩
def fx_ok (J' : Md) (n : Nat) : Prop := Cond.code J'.1 J'.2.1 J'.2.2.1 J'.2.2.2 ∈ fx_TB ∧ Cond.initialized J'.1.cls ∈ fx_TB ∧ (J'.1.cls ≠ "java/lang/invoke/MethodHandle" ∧ J'.1.cls ≠ "java/lang/invoke/VarHandle" ∧ (parseMethodDescriptor J'.1.desc).map (fun d => d.parameters.length) = some n)
def fx_okV (J' : Md) (n : Nat) : Prop := fx_ok J' n ∧ Cond.instanceMethod J'.1 ∈ fx_TB ∧ Cond.selects J'.1.cls J'.1 J'.1 ∈ fx_TB
def fx_okS (J' : Md) (n : Nat) : Prop := fx_ok J' n ∧ Cond.static J'.1 ∈ fx_TB
def fx_okI (J' : Md) (n : Nat) : Prop := fx_ok J' n ∧ J'.1.name = "<init>" ∧ Cond.instanceMethod J'.1 ∈ fx_TB ∧ J'.2.2.2 = none
/-- the room that a call wants -/
def fx_rc (R : Room) (J' : Md) (d k n mc ms : Nat) : Prop := d + 2 ≤ R.frames ∧ 19 + J'.2.2.1 + 64 * (d + 1) ≤ R.locals ∧ k + mc ≤ R.cells ∧ n + ms ≤ R.slots
theorem aw_callV {J' : Md} {idx nn d mc ms : Nat} {As st0 : List Value} {Q : Option Value → Nat → Wd → Prop} {i ci : Nat} (hd : decode J.2.1 pc = .ok (.invokevirtual idx, 3)) (hl : Cond.methodLink J.1.cls idx J'.1 ∈ fx_TB) (hv : fx_okV J' nn) (he : ∃ fs, V i = cO ci fs) (hi : i < N) (hc : (vwCl[ci]?).map (·.1) = some J'.1.cls) (hst : st0 = As.reverse ++ .ref (b + i) :: st) (hcall : MW l D b d J' (.ref (b + i) :: As) N V mc ms Q) (hn : As.length = nn) (hW : (st.map fun v => v.category).sum ≤ 8) (hrc : fx_rc R J' d k n mc ms) (h : ∀ (v : Option Value) (N' : Nat) (V' : Wd), Q v N' V' → AW l D b J R X FQ (pc + 3) ls (v.toList ++ st) N' V' (k + mc) (n + ms)) : AW l D b J R X FQ pc ls st0 N V k n := by
  intro p e s m args below meth c H locs arr hC hL hA hS
  obtain ⟨hx, hb, hr, hml, hown, hts, hlk, hnm, hK, hsz, hX, hNS, hEn⟩ := id hC
  obtain ⟨⟨g1, g2, g3⟩, g4, g5⟩ := hv
  obtain ⟨fs, he⟩ := he
  subst hst
  have hT : GoodIn (fx_ws J) (wsV J.1.cls idx J'.1.cls J'.1 (fx_ws J')) := fx_goodIn g1 (fun w hw => by
    simp only [List.mem_cons, List.not_mem_nil, or_false] at hw
    rcases hw with rfl | rfl | rfl | rfl
    · exact hl
    · exact g4
    · exact g5
    · exact g2)
  obtain ⟨q9, hq9, hq8⟩ : ∃ q9, vwCl[ci]? = some q9 ∧ q9.1 = J'.1.cls := by
    cases hx9 : vwCl[ci]? with
    | none => rw [hx9] at hc; cases hc
    | some q9 => rw [hx9] at hc; exact ⟨q9, rfl, Option.some.inj hc⟩
  have hrecv := va_recv (q0 := 0) hK (va_one hA hi he) hq9 rfl
  rw [hq8] at hrecv
  exact fx_call (va_runV (As := As) (rest := st) ⟨hx, hb, hml, hown, hts⟩ hcall (cwV nn hts hT rfl rfl rfl ⟨rfl, g3⟩ ⟨hrc.1, by have := hrc.2.1; show 8 + (J'.2.2.1 + 11) + 64 * (d + 1) ≤ _; omega⟩) ⟨fx_blind, hrecv, fx_pre hK hA hNS hEn hS⟩ rfl hn hL.1 rfl (lv_room hW) hd hrc.2.2) hS (fun v N' V' hq H1 locs1 hA1 hS1 => h v N' V' hq p e s m args below meth c H1 locs1 arr hC hL hA1 hS1)
theorem aw_callS {J' : Md} {idx nn d mc ms : Nat} {As st0 : List Value} {Q : Option Value → Nat → Wd → Prop} (hd : decode J.2.1 pc = .ok (.invokestatic idx, 3)) (hl : Cond.methodLink J.1.cls idx J'.1 ∈ fx_TB) (hv : fx_okS J' nn) (hst : st0 = As.reverse ++ st) (hcall : MW l D b d J' (As) N V mc ms Q) (hn : As.length = nn) (hW : (st.map fun v => v.category).sum ≤ 8) (hrc : fx_rc R J' d k n mc ms) (h : ∀ (v : Option Value) (N' : Nat) (V' : Wd), Q v N' V' → AW l D b J R X FQ (pc + 3) ls (v.toList ++ st) N' V' (k + mc) (n + ms)) : AW l D b J R X FQ pc ls st0 N V k n := by
  intro p e s m args below meth c H locs arr hC hL hA hS
  obtain ⟨hx, hb, hr, hml, hown, hts, hlk, hnm, hK, hsz, hX, hNS, hEn⟩ := id hC
  obtain ⟨⟨g1, g2, g3⟩, g4⟩ := hv
  subst hst
  exact fx_call (va_runS (As := As) (rest := st) ⟨hx, hb, hml, hown, hts⟩ hcall ⟨callB_of nn hts (fx_goodIn (xs := []) g1 (fun w hw => by cases hw)) rfl rfl rfl (hts _ (List.mem_cons_of_mem _ g2)) (hts _ (List.mem_cons_of_mem _ hl)) g3 ⟨hrc.1, by have := hrc.2.1; show 8 + (J'.2.2.1 + 11) + 64 * (d + 1) ≤ _; omega⟩, hts _ (List.mem_cons_of_mem _ g4)⟩ ⟨fx_blind, fx_pre hK hA hNS hEn hS⟩ rfl hn hL.1 rfl (lv_room hW) hd hrc.2.2) hS (fun v N' V' hq H1 locs1 hA1 hS1 => h v N' V' hq p e s m args below meth c H1 locs1 arr hC hL hA1 hS1)
theorem aw_callSN {J' : Md} {idx nn d mc ms : Nat} {As st0 : List Value} {Q : Option Value → Nat → Wd → Prop} {host : String} (hd : decode J.2.1 pc = .ok (.invokestatic idx, 3)) (hl : Cond.methodLinkNest J.1.cls idx J'.1 host ∈ fx_NW) (hv : fx_okS J' nn) (hst : st0 = As.reverse ++ st) (hcall : MW l D b d J' (As) N V mc ms Q) (hn : As.length = nn) (hW : (st.map fun v => v.category).sum ≤ 8) (hrc : fx_rc R J' d k n mc ms) (h : ∀ (v : Option Value) (N' : Nat) (V' : Wd), Q v N' V' → AW l D b J R X FQ (pc + 3) ls (v.toList ++ st) N' V' (k + mc) (n + ms)) : AW l D b J R X FQ pc ls st0 N V k n := by
  intro p e s m args below meth c H locs arr hC hL hA hS
  obtain ⟨hx, hb, hr, hml, hown, hts, hlk, hnm, hK, hsz, hX, hNS, hEn⟩ := id hC
  obtain ⟨⟨g1, g2, g3⟩, g4⟩ := hv
  subst hst
  exact fx_call (va_runSN (As := As) (rest := st) ⟨hx, hb, hml, hown, hts⟩ hcall ⟨va_cnB nn hts (fx_goodIn (xs := []) g1 (fun w hw => by cases hw)) rfl rfl rfl (hNS _ hl) (hts _ (List.mem_cons_of_mem _ g2)) g3 ⟨hrc.1, by have := hrc.2.1; show 8 + (J'.2.2.1 + 11) + 64 * (d + 1) ≤ _; omega⟩, hts _ (List.mem_cons_of_mem _ g4), trivial⟩ ⟨fx_blind, fx_pre hK hA hNS hEn hS⟩ rfl hn hL.1 rfl (lv_room hW) hd hrc.2.2) hS (fun v N' V' hq H1 locs1 hA1 hS1 => h v N' V' hq p e s m args below meth c H1 locs1 arr hC hL hA1 hS1)
theorem aw_callI {y9 : MethodName} {c9 : ByteArray} {n9 : Nat} {idx nn d mc ms b9 : Nat} {As st0 : List Value} {Q : Option Value → Nat → Wd → Prop} (hd : decode J.2.1 pc = .ok (.invokespecial idx, 3)) (hl : Cond.methodLink J.1.cls idx y9 ∈ fx_TB) (hv : fx_okI (y9, c9, n9, none) nn) (hst : st0 = As.reverse ++ .ref b9 :: st) (hcall : MW l D b d (y9, c9, n9, none) (.ref b9 :: As) N V mc ms Q) (hn : As.length = nn) (hW : (st.map fun v => v.category).sum ≤ 8) (hrc : fx_rc R (y9, c9, n9, none) d k n mc ms) (h : ∀ (v : Option Value) (N' : Nat) (V' : Wd), Q v N' V' → AW l D b J R X FQ (pc + 3) ls (v.toList ++ st) N' V' (k + mc) (n + ms)) : AW l D b J R X FQ pc ls st0 N V k n := by
  intro p e s m args below meth c H locs arr hC hL hA hS
  obtain ⟨hx, hb, hr, hml, hown, hts, hlk, hnm, hK, hsz, hX, hNS, hEn⟩ := id hC
  obtain ⟨⟨g1, g2, g3⟩, g4, g5, -⟩ := hv
  subst hst
  exact fx_call (va_runI (As := As) (rest := st) ⟨hx, hb, hml, hown, hts⟩ hcall ⟨callB_of nn hts (fx_goodIn (J' := (y9, c9, n9, none)) (xs := []) g1 (fun w hw => by cases hw)) rfl rfl rfl (hts _ (List.mem_cons_of_mem _ g2)) (hts _ (List.mem_cons_of_mem _ hl)) g3 ⟨hrc.1, by have h9 : 19 + n9 + 64 * (d + 1) ≤ _ := hrc.2.1; show 8 + (n9 + 11) + 64 * (d + 1) ≤ _; omega⟩, g4, hts _ (List.mem_cons_of_mem _ g5)⟩ ⟨fx_blind, fx_pre hK hA hNS hEn hS⟩ rfl hn hL.1 rfl (lv_room hW) hd hrc.2.2) hS (fun v N' V' hq H1 locs1 hA1 hS1 => h v N' V' hq p e s m args below meth c H1 locs1 arr hC hL hA1 hS1)
theorem aw_callIN {y9 : MethodName} {c9 : ByteArray} {n9 : Nat} {idx nn d mc ms b9 : Nat} {host : String} {As st0 : List Value} {Q : Option Value → Nat → Wd → Prop} (hd : decode J.2.1 pc = .ok (.invokespecial idx, 3)) (hl : Cond.methodLinkNest J.1.cls idx y9 host ∈ fx_NW) (hv : fx_okI (y9, c9, n9, none) nn) (hst : st0 = As.reverse ++ .ref b9 :: st) (hcall : MW l D b d (y9, c9, n9, none) (.ref b9 :: As) N V mc ms Q) (hn : As.length = nn) (hW : (st.map fun v => v.category).sum ≤ 8) (hrc : fx_rc R (y9, c9, n9, none) d k n mc ms) (h : ∀ (v : Option Value) (N' : Nat) (V' : Wd), Q v N' V' → AW l D b J R X FQ (pc + 3) ls (v.toList ++ st) N' V' (k + mc) (n + ms)) : AW l D b J R X FQ pc ls st0 N V k n := by
  intro p e s m args below meth c H locs arr hC hL hA hS
  obtain ⟨hx, hb, hr, hml, hown, hts, hlk, hnm, hK, hsz, hX, hNS, hEn⟩ := id hC
  obtain ⟨⟨g1, g2, g3⟩, g4, g5, -⟩ := hv
  subst hst
  exact fx_call (va_runIN (As := As) (rest := st) ⟨hx, hb, hml, hown, hts⟩ hcall ⟨va_cnB nn hts (fx_goodIn (J' := (y9, c9, n9, none)) (xs := []) g1 (fun w hw => by cases hw)) rfl rfl rfl (hNS _ hl) (hts _ (List.mem_cons_of_mem _ g2)) g3 ⟨hrc.1, by have h9 : 19 + n9 + 64 * (d + 1) ≤ _ := hrc.2.1; show 8 + (n9 + 11) + 64 * (d + 1) ≤ _; omega⟩, g4, hts _ (List.mem_cons_of_mem _ g5)⟩ ⟨fx_blind, fx_pre hK hA hNS hEn hS⟩ rfl hn hL.1 rfl (lv_room hW) hd hrc.2.2) hS (fun v N' V' hq H1 locs1 hA1 hS1 => h v N' V' hq p e s m args below meth c H1 locs1 arr hC hL hA1 hS1)
theorem aw_objInit {idx b9 : Nat} (hd : decode J.2.1 pc = .ok (.invokespecial idx, 3)) (hl : Cond.methodLink J.1.cls idx objectInit ∈ fx_TB) (hi : Cond.instanceMethod objectInit ∈ fx_TB) (hc : Cond.code objectInit ⟨#[0xb1]⟩ 1 none ∈ fx_TB) (hR : 1 ≤ R.frames ∧ (st.map fun v => v.category).sum + 12 ≤ R.locals) (h : AW l D b J R X FQ (pc + 3) ls st N V k n) : AW l D b J R X FQ pc ls (.ref b9 :: st) N V k n := by
  intro p e s m args below meth c H locs arr hC hL hA hS
  obtain ⟨hx, hb, hr, hml, hown, hts, hlk, hnm, hK, hsz, hX, hNS, hEn⟩ := id hC
  refine W.objInit hx hb hown (hts _ (List.mem_cons_of_mem _ hl)) (hts _ (List.mem_cons_of_mem _ hi)) (hts _ (List.mem_cons_of_mem _ hc)) rfl (by rw [hml]; exact hL.1) rfl hd hR.1 (by have := hR.2; show 2 * 0 + _ + 12 ≤ _; omega) ?_
  exact h p e s m args below meth c H locs arr hC hL hA hS
theorem aw_mmax {idx : Nat} {x y : Int32} (hd : decode J.2.1 pc = .ok (.invokestatic idx, 3)) (hl : Cond.methodLink J.1.cls idx Lib.Math.max.name ∈ fx_TB) (h1 : Cond.static Lib.Math.max.name ∈ fx_TB) (h2 : Cond.initialized "java/lang/Math" ∈ fx_TB) (h3 : Cond.code Lib.Math.max.name Lib.Math.max.code 2 (some .int) ∈ fx_TB) (hR : 1 ≤ R.frames ∧ (st.map fun v => v.category).sum + 13 ≤ R.locals ∧ k ≤ R.cells ∧ n ≤ R.slots) (h : AW l D b J R X FQ (pc + 3) ls (.int (if x < y then y else x) :: st) N V k n) : AW l D b J R X FQ pc ls (.int y :: .int x :: st) N V k n := by
  intro p e s m args below meth c H locs arr hC hL hA hS
  obtain ⟨hx, hb, hr, hml, hown, hts, hlk, hnm, hK, hsz, hX, hNS, hEn⟩ := id hC
  exact va_mmax hx hb (by rw [hml]; exact hL.1.symm) hown (hts _ (List.mem_cons_of_mem _ hl)) (hts _ (List.mem_cons_of_mem _ h1)) (hts _ (List.mem_cons_of_mem _ h2)) (hts _ (List.mem_cons_of_mem _ h3)) hR.1 hR.2.1 hR.2.2.1 hR.2.2.2 hd (h p e s m args below meth c H locs arr hC hL hA hS)
theorem aw_mmin {idx : Nat} {x y : Int32} (hd : decode J.2.1 pc = .ok (.invokestatic idx, 3)) (hl : Cond.methodLink J.1.cls idx Lib.Math.min.name ∈ fx_TB) (h1 : Cond.static Lib.Math.min.name ∈ fx_TB) (h2 : Cond.initialized "java/lang/Math" ∈ fx_TB) (h3 : Cond.code Lib.Math.min.name Lib.Math.min.code 2 (some .int) ∈ fx_TB) (hR : 1 ≤ R.frames ∧ (st.map fun v => v.category).sum + 13 ≤ R.locals ∧ k ≤ R.cells ∧ n ≤ R.slots) (h : AW l D b J R X FQ (pc + 3) ls (.int (if y < x then y else x) :: st) N V k n) : AW l D b J R X FQ pc ls (.int y :: .int x :: st) N V k n := by
  intro p e s m args below meth c H locs arr hC hL hA hS
  obtain ⟨hx, hb, hr, hml, hown, hts, hlk, hnm, hK, hsz, hX, hNS, hEn⟩ := id hC
  exact va_mmin hx hb (by rw [hml]; exact hL.1.symm) hown (hts _ (List.mem_cons_of_mem _ hl)) (hts _ (List.mem_cons_of_mem _ h1)) (hts _ (List.mem_cons_of_mem _ h2)) (hts _ (List.mem_cons_of_mem _ h3)) hR.1 hR.2.1 hR.2.2.1 hR.2.2.2 hd (h p e s m args below meth c H locs arr hC hL hA hS)
theorem aw_mabs {idx : Nat} {x : Int32} (hd : decode J.2.1 pc = .ok (.invokestatic idx, 3)) (hl : Cond.methodLink J.1.cls idx Lib.Math.abs.name ∈ fx_TB) (h1 : Cond.static Lib.Math.abs.name ∈ fx_TB) (h2 : Cond.initialized "java/lang/Math" ∈ fx_TB) (h3 : Cond.code Lib.Math.abs.name Lib.Math.abs.code 1 (some .int) ∈ fx_TB) (hR : 1 ≤ R.frames ∧ (st.map fun v => v.category).sum + 13 ≤ R.locals ∧ k ≤ R.cells ∧ n ≤ R.slots) (h : AW l D b J R X FQ (pc + 3) ls (.int (if 0 ≤ x then x else 0 - x) :: st) N V k n) : AW l D b J R X FQ pc ls (.int x :: st) N V k n := by
  intro p e s m args below meth c H locs arr hC hL hA hS
  obtain ⟨hx, hb, hr, hml, hown, hts, hlk, hnm, hK, hsz, hX, hNS, hEn⟩ := id hC
  exact va_mabs hx hb (by rw [hml]; exact hL.1.symm) hown (hts _ (List.mem_cons_of_mem _ hl)) (hts _ (List.mem_cons_of_mem _ h1)) (hts _ (List.mem_cons_of_mem _ h2)) (hts _ (List.mem_cons_of_mem _ h3)) hR.1 hR.2.1 hR.2.2.1 hR.2.2.2 hd (h p e s m args below meth c H locs arr hC hL hA hS)
end AWV
section AWR
variable {l : Launch} {D : va_G} {b : Nat} {J : Md} {R : Room} {X : Sc} {pc : Nat} {ls : List (Option Value)} {N : Nat} {V : Wd} {k n mc ms : Nat} {Q : Option Value → Nat → Wd → Prop}
theorem aw_ireturn {v : Int32} (hd : decode J.2.1 pc = .ok (.ireturn, 1)) (hr9 : J.2.2.2 = some .int) (hk : k ≤ mc) (hn : n ≤ ms) (hq : Q (some (.int v)) N V) : AW l D b J R X (fx_MQ D b mc ms Q) pc ls [.int v] N V k n := by
  intro p e s m args below meth c H locs arr hC hL hA hS
  obtain ⟨hx, hb, hr, hml, hown, hts, hlk, hnm, hK, hsz, hX, hNS, hEn⟩ := id hC
  exact W.widen hk hn (W.iret hx hb (hr.trans hr9) (fun t ht hW => ⟨⟨_, N, V, rfl, hq, by rw [ht]; exact hA⟩, hS.F ht⟩) hS.2.2 hd hlk)
theorem aw_lreturn {v : Int64} (hd : decode J.2.1 pc = .ok (.lreturn, 1)) (hr9 : J.2.2.2 = some .long) (hk : k ≤ mc) (hn : n ≤ ms) (hq : Q (some (.long v)) N V) : AW l D b J R X (fx_MQ D b mc ms Q) pc ls [.long v] N V k n := by
  intro p e s m args below meth c H locs arr hC hL hA hS
  obtain ⟨hx, hb, hr, hml, hown, hts, hlk, hnm, hK, hsz, hX, hNS, hEn⟩ := id hC
  exact W.widen hk hn (W.lret hx hb (hr.trans hr9) (fun t ht hW => ⟨⟨_, N, V, rfl, hq, by rw [ht]; exact hA⟩, hS.F ht⟩) hS.2.2 hd hlk)
theorem aw_vreturn  (hd : decode J.2.1 pc = .ok (.return_, 1)) (hr9 : J.2.2.2 = none) (hk : k ≤ mc) (hn : n ≤ ms) (hq : Q (none) N V) : AW l D b J R X (fx_MQ D b mc ms Q) pc ls [] N V k n := by
  intro p e s m args below meth c H locs arr hC hL hA hS
  obtain ⟨hx, hb, hr, hml, hown, hts, hlk, hnm, hK, hsz, hX, hNS, hEn⟩ := id hC
  exact W.widen hk hn (W.vret hx hb (hr.trans hr9) (fun t ht hW => ⟨⟨_, N, V, rfl, hq, by rw [ht]; exact hA⟩, hS.F ht⟩) hS.2.2 hd hlk)
theorem aw_zreturn {v : Int32} (hd : decode J.2.1 pc = .ok (.ireturn, 1)) (hr9 : J.2.2.2 = some .boolean) (hz : v = 0 ∨ v = 1) (hk : k ≤ mc) (hn : n ≤ ms) (hq : Q (some (.int v)) N V) : AW l D b J R X (fx_MQ D b mc ms Q) pc ls [.int v] N V k n := by
  intro p e s m args below meth c H locs arr hC hL hA hS
  obtain ⟨hx, hb, hr, hml, hown, hts, hlk, hnm, hK, hsz, hX, hNS, hEn⟩ := id hC
  exact W.widen hk hn (W.zret (ty := .boolean) hx hb (hr.trans hr9) (by rcases hz with rfl | rfl <;> rfl) (fun t ht hW => ⟨⟨_, N, V, rfl, hq, by rw [ht]; exact hA⟩, hS.F ht⟩) hS.2.2 hd hlk)
end AWR
def fx_qi (Q : Int32 → Nat → Wd → Prop) : Option Value → Nat → Wd → Prop := fun r N V => ∃ x : Int32, r = some (.int x) ∧ Q x N V
def fx_ql (Q : Int64 → Nat → Wd → Prop) : Option Value → Nat → Wd → Prop := fun r N V => ∃ x : Int64, r = some (.long x) ∧ Q x N V
def fx_qv (Q : Nat → Wd → Prop) : Option Value → Nat → Wd → Prop := fun r N V => r = none ∧ Q N V
abbrev MI (l : Launch) (D : va_G) (b d : Nat) (J : Md) (av : List Value) (N : Nat) (V : Wd) (mc ms : Nat) (Q : Int32 → Nat → Wd → Prop) : Prop := MW l D b d J av N V mc ms (fx_qi Q)
abbrev ML (l : Launch) (D : va_G) (b d : Nat) (J : Md) (av : List Value) (N : Nat) (V : Wd) (mc ms : Nat) (Q : Int64 → Nat → Wd → Prop) : Prop := MW l D b d J av N V mc ms (fx_ql Q)
abbrev MV (l : Launch) (D : va_G) (b d : Nat) (J : Md) (av : List Value) (N : Nat) (V : Wd) (mc ms : Nat) (Q : Nat → Wd → Prop) : Prop := MW l D b d J av N V mc ms (fx_qv Q)
/-- a counter that falls: -1 at 0, else one less -/
def fx_dn : Nat → Int32
  | 0 => -1
  | g + 1 => nI g
theorem fx_dn_1 (g : Nat) : nI g + Int32.ofInt (-1) = fx_dn g := by
  cases g with
  | zero => decide
  | succ g => exact (show nI (g + 1) + Int32.ofInt (-1) = nI (g + 1) - 1 by rw [show (Int32.ofInt (-1)) = -1 by decide, Int32.sub_eq_add_neg]).trans (nI_pred g)
theorem fx_up_1 (g : Nat) : nI g + Int32.ofInt 1 = nI (g + 1) := nI_1 g
section AWT
variable {l : Launch} {D : va_G} {b : Nat} {J : Md} {R : Room} {X : Sc} {FQ : Array Value → List Frame → State → State → Prop} {pc : Nat} {ls : List (Option Value)} {st : List Value} {N : Nat} {V : Wd} {k n : Nat}
theorem aw_callVi {J' : Md} {idx nn d mc ms : Nat} {As st0 : List Value} {i ci : Nat} {Q : Int32 → Nat → Wd → Prop} (hd : decode J.2.1 pc = .ok (.invokevirtual idx, 3)) (hl : Cond.methodLink J.1.cls idx J'.1 ∈ fx_TB) (hv : fx_okV J' nn) (he : ∃ fs, V i = cO ci fs) (hi : i < N) (hc : (vwCl[ci]?).map (·.1) = some J'.1.cls) (hst : st0 = As.reverse ++ .ref (b + i) :: st) (hcall : MW l D b d J' (.ref (b + i) :: As) N V mc ms (fx_qi Q)) (hn : As.length = nn) (hW : (st.map fun v => v.category).sum ≤ 8) (hrc : fx_rc R J' d k n mc ms) (h : ∀ (x : Int32) (N' : Nat) (V' : Wd), Q x N' V' → AW l D b J R X FQ (pc + 3) ls (.int x :: st) N' V' (k + mc) (n + ms)) : AW l D b J R X FQ pc ls st0 N V k n := aw_callV hd hl hv he hi hc hst hcall hn hW hrc (fun v N' V' hq => by obtain ⟨x, rfl, hq⟩ := hq; exact h x N' V' hq)
theorem aw_callVl {J' : Md} {idx nn d mc ms : Nat} {As st0 : List Value} {i ci : Nat} {Q : Int64 → Nat → Wd → Prop} (hd : decode J.2.1 pc = .ok (.invokevirtual idx, 3)) (hl : Cond.methodLink J.1.cls idx J'.1 ∈ fx_TB) (hv : fx_okV J' nn) (he : ∃ fs, V i = cO ci fs) (hi : i < N) (hc : (vwCl[ci]?).map (·.1) = some J'.1.cls) (hst : st0 = As.reverse ++ .ref (b + i) :: st) (hcall : MW l D b d J' (.ref (b + i) :: As) N V mc ms (fx_ql Q)) (hn : As.length = nn) (hW : (st.map fun v => v.category).sum ≤ 8) (hrc : fx_rc R J' d k n mc ms) (h : ∀ (x : Int64) (N' : Nat) (V' : Wd), Q x N' V' → AW l D b J R X FQ (pc + 3) ls (.long x :: st) N' V' (k + mc) (n + ms)) : AW l D b J R X FQ pc ls st0 N V k n := aw_callV hd hl hv he hi hc hst hcall hn hW hrc (fun v N' V' hq => by obtain ⟨x, rfl, hq⟩ := hq; exact h x N' V' hq)
theorem aw_callVv {J' : Md} {idx nn d mc ms : Nat} {As st0 : List Value} {i ci : Nat} {Q : Nat → Wd → Prop} (hd : decode J.2.1 pc = .ok (.invokevirtual idx, 3)) (hl : Cond.methodLink J.1.cls idx J'.1 ∈ fx_TB) (hv : fx_okV J' nn) (he : ∃ fs, V i = cO ci fs) (hi : i < N) (hc : (vwCl[ci]?).map (·.1) = some J'.1.cls) (hst : st0 = As.reverse ++ .ref (b + i) :: st) (hcall : MW l D b d J' (.ref (b + i) :: As) N V mc ms (fx_qv Q)) (hn : As.length = nn) (hW : (st.map fun v => v.category).sum ≤ 8) (hrc : fx_rc R J' d k n mc ms) (h : ∀ (N' : Nat) (V' : Wd), Q N' V' → AW l D b J R X FQ (pc + 3) ls st N' V' (k + mc) (n + ms)) : AW l D b J R X FQ pc ls st0 N V k n := aw_callV hd hl hv he hi hc hst hcall hn hW hrc (fun v N' V' hq => by obtain ⟨rfl, hq⟩ := hq; exact h N' V' hq)
theorem aw_callSi {J' : Md} {idx nn d mc ms : Nat} {As st0 : List Value} {Q : Int32 → Nat → Wd → Prop} (hd : decode J.2.1 pc = .ok (.invokestatic idx, 3)) (hl : Cond.methodLink J.1.cls idx J'.1 ∈ fx_TB) (hv : fx_okS J' nn) (hst : st0 = As.reverse ++ st) (hcall : MW l D b d J' (As) N V mc ms (fx_qi Q)) (hn : As.length = nn) (hW : (st.map fun v => v.category).sum ≤ 8) (hrc : fx_rc R J' d k n mc ms) (h : ∀ (x : Int32) (N' : Nat) (V' : Wd), Q x N' V' → AW l D b J R X FQ (pc + 3) ls (.int x :: st) N' V' (k + mc) (n + ms)) : AW l D b J R X FQ pc ls st0 N V k n := aw_callS hd hl hv hst hcall hn hW hrc (fun v N' V' hq => by obtain ⟨x, rfl, hq⟩ := hq; exact h x N' V' hq)
theorem aw_callSl {J' : Md} {idx nn d mc ms : Nat} {As st0 : List Value} {Q : Int64 → Nat → Wd → Prop} (hd : decode J.2.1 pc = .ok (.invokestatic idx, 3)) (hl : Cond.methodLink J.1.cls idx J'.1 ∈ fx_TB) (hv : fx_okS J' nn) (hst : st0 = As.reverse ++ st) (hcall : MW l D b d J' (As) N V mc ms (fx_ql Q)) (hn : As.length = nn) (hW : (st.map fun v => v.category).sum ≤ 8) (hrc : fx_rc R J' d k n mc ms) (h : ∀ (x : Int64) (N' : Nat) (V' : Wd), Q x N' V' → AW l D b J R X FQ (pc + 3) ls (.long x :: st) N' V' (k + mc) (n + ms)) : AW l D b J R X FQ pc ls st0 N V k n := aw_callS hd hl hv hst hcall hn hW hrc (fun v N' V' hq => by obtain ⟨x, rfl, hq⟩ := hq; exact h x N' V' hq)
theorem aw_callSv {J' : Md} {idx nn d mc ms : Nat} {As st0 : List Value} {Q : Nat → Wd → Prop} (hd : decode J.2.1 pc = .ok (.invokestatic idx, 3)) (hl : Cond.methodLink J.1.cls idx J'.1 ∈ fx_TB) (hv : fx_okS J' nn) (hst : st0 = As.reverse ++ st) (hcall : MW l D b d J' (As) N V mc ms (fx_qv Q)) (hn : As.length = nn) (hW : (st.map fun v => v.category).sum ≤ 8) (hrc : fx_rc R J' d k n mc ms) (h : ∀ (N' : Nat) (V' : Wd), Q N' V' → AW l D b J R X FQ (pc + 3) ls st N' V' (k + mc) (n + ms)) : AW l D b J R X FQ pc ls st0 N V k n := aw_callS hd hl hv hst hcall hn hW hrc (fun v N' V' hq => by obtain ⟨rfl, hq⟩ := hq; exact h N' V' hq)
theorem aw_callSNi {J' : Md} {idx nn d mc ms : Nat} {As st0 : List Value} {host : String} {Q : Int32 → Nat → Wd → Prop} (hd : decode J.2.1 pc = .ok (.invokestatic idx, 3)) (hl : Cond.methodLinkNest J.1.cls idx J'.1 host ∈ fx_NW) (hv : fx_okS J' nn) (hst : st0 = As.reverse ++ st) (hcall : MW l D b d J' (As) N V mc ms (fx_qi Q)) (hn : As.length = nn) (hW : (st.map fun v => v.category).sum ≤ 8) (hrc : fx_rc R J' d k n mc ms) (h : ∀ (x : Int32) (N' : Nat) (V' : Wd), Q x N' V' → AW l D b J R X FQ (pc + 3) ls (.int x :: st) N' V' (k + mc) (n + ms)) : AW l D b J R X FQ pc ls st0 N V k n := aw_callSN hd hl hv hst hcall hn hW hrc (fun v N' V' hq => by obtain ⟨x, rfl, hq⟩ := hq; exact h x N' V' hq)
theorem aw_callSNl {J' : Md} {idx nn d mc ms : Nat} {As st0 : List Value} {host : String} {Q : Int64 → Nat → Wd → Prop} (hd : decode J.2.1 pc = .ok (.invokestatic idx, 3)) (hl : Cond.methodLinkNest J.1.cls idx J'.1 host ∈ fx_NW) (hv : fx_okS J' nn) (hst : st0 = As.reverse ++ st) (hcall : MW l D b d J' (As) N V mc ms (fx_ql Q)) (hn : As.length = nn) (hW : (st.map fun v => v.category).sum ≤ 8) (hrc : fx_rc R J' d k n mc ms) (h : ∀ (x : Int64) (N' : Nat) (V' : Wd), Q x N' V' → AW l D b J R X FQ (pc + 3) ls (.long x :: st) N' V' (k + mc) (n + ms)) : AW l D b J R X FQ pc ls st0 N V k n := aw_callSN hd hl hv hst hcall hn hW hrc (fun v N' V' hq => by obtain ⟨x, rfl, hq⟩ := hq; exact h x N' V' hq)
theorem aw_callSNv {J' : Md} {idx nn d mc ms : Nat} {As st0 : List Value} {host : String} {Q : Nat → Wd → Prop} (hd : decode J.2.1 pc = .ok (.invokestatic idx, 3)) (hl : Cond.methodLinkNest J.1.cls idx J'.1 host ∈ fx_NW) (hv : fx_okS J' nn) (hst : st0 = As.reverse ++ st) (hcall : MW l D b d J' (As) N V mc ms (fx_qv Q)) (hn : As.length = nn) (hW : (st.map fun v => v.category).sum ≤ 8) (hrc : fx_rc R J' d k n mc ms) (h : ∀ (N' : Nat) (V' : Wd), Q N' V' → AW l D b J R X FQ (pc + 3) ls st N' V' (k + mc) (n + ms)) : AW l D b J R X FQ pc ls st0 N V k n := aw_callSN hd hl hv hst hcall hn hW hrc (fun v N' V' hq => by obtain ⟨rfl, hq⟩ := hq; exact h N' V' hq)
theorem aw_callIv {y9 : MethodName} {c9 : ByteArray} {n9 : Nat} {idx nn d mc ms b9 : Nat} {As st0 : List Value} {Q : Nat → Wd → Prop} (hd : decode J.2.1 pc = .ok (.invokespecial idx, 3)) (hl : Cond.methodLink J.1.cls idx y9 ∈ fx_TB) (hv : fx_okI (y9, c9, n9, none) nn) (hst : st0 = As.reverse ++ .ref b9 :: st) (hcall : MW l D b d (y9, c9, n9, none) (.ref b9 :: As) N V mc ms (fx_qv Q)) (hn : As.length = nn) (hW : (st.map fun v => v.category).sum ≤ 8) (hrc : fx_rc R (y9, c9, n9, none) d k n mc ms) (h : ∀ (N' : Nat) (V' : Wd), Q N' V' → AW l D b J R X FQ (pc + 3) ls st N' V' (k + mc) (n + ms)) : AW l D b J R X FQ pc ls st0 N V k n := aw_callI hd hl hv hst hcall hn hW hrc (fun v N' V' hq => by obtain ⟨rfl, hq⟩ := hq; exact h N' V' hq)
theorem aw_callINv {y9 : MethodName} {c9 : ByteArray} {n9 : Nat} {idx nn d mc ms b9 : Nat} {host : String} {As st0 : List Value} {Q : Nat → Wd → Prop} (hd : decode J.2.1 pc = .ok (.invokespecial idx, 3)) (hl : Cond.methodLinkNest J.1.cls idx y9 host ∈ fx_NW) (hv : fx_okI (y9, c9, n9, none) nn) (hst : st0 = As.reverse ++ .ref b9 :: st) (hcall : MW l D b d (y9, c9, n9, none) (.ref b9 :: As) N V mc ms (fx_qv Q)) (hn : As.length = nn) (hW : (st.map fun v => v.category).sum ≤ 8) (hrc : fx_rc R (y9, c9, n9, none) d k n mc ms) (h : ∀ (N' : Nat) (V' : Wd), Q N' V' → AW l D b J R X FQ (pc + 3) ls st N' V' (k + mc) (n + ms)) : AW l D b J R X FQ pc ls st0 N V k n := aw_callIN hd hl hv hst hcall hn hW hrc (fun v N' V' hq => by obtain ⟨rfl, hq⟩ := hq; exact h N' V' hq)
theorem aw_ireti {v : Int32} {mc ms : Nat} {Q : Int32 → Nat → Wd → Prop} (hd : decode J.2.1 pc = .ok (.ireturn, 1)) (hr9 : J.2.2.2 = some .int) (hk : k ≤ mc) (hn : n ≤ ms) (hq : Q v N V) : AW l D b J R X (fx_MQ D b mc ms (fx_qi Q)) pc ls [.int v] N V k n := aw_ireturn hd hr9 hk hn ⟨_, rfl, hq⟩
theorem aw_lreti {v : Int64} {mc ms : Nat} {Q : Int64 → Nat → Wd → Prop} (hd : decode J.2.1 pc = .ok (.lreturn, 1)) (hr9 : J.2.2.2 = some .long) (hk : k ≤ mc) (hn : n ≤ ms) (hq : Q v N V) : AW l D b J R X (fx_MQ D b mc ms (fx_ql Q)) pc ls [.long v] N V k n := aw_lreturn hd hr9 hk hn ⟨_, rfl, hq⟩
theorem aw_zreti {v : Int32} {mc ms : Nat} {Q : Int32 → Nat → Wd → Prop} (hd : decode J.2.1 pc = .ok (.ireturn, 1)) (hr9 : J.2.2.2 = some .boolean) (hz : v = 0 ∨ v = 1) (hk : k ≤ mc) (hn : n ≤ ms) (hq : Q v N V) : AW l D b J R X (fx_MQ D b mc ms (fx_qi Q)) pc ls [.int v] N V k n := aw_zreturn hd hr9 hz hk hn ⟨_, rfl, hq⟩
theorem aw_vreti {mc ms : Nat} {Q : Nat → Wd → Prop} (hd : decode J.2.1 pc = .ok (.return_, 1)) (hr9 : J.2.2.2 = none) (hk : k ≤ mc) (hn : n ≤ ms) (hq : Q N V) : AW l D b J R X (fx_MQ D b mc ms (fx_qv Q)) pc ls [] N V k n := aw_vreturn hd hr9 hk hn ⟨rfl, hq⟩
end AWT
end
section
theorem dJ0_length_8abf5_0 : decode cJ0_length_8abf5 0 = .ok (.aload_n 0, 1) := by decide +kernel
theorem dJ0_length_8abf5_1 : decode cJ0_length_8abf5 1 = .ok (.getfield 9, 3) := by decide +kernel
theorem dJ0_length_8abf5_4 : decode cJ0_length_8abf5 4 = .ok (.arraylength, 1) := by decide +kernel
theorem dJ0_length_8abf5_5 : decode cJ0_length_8abf5 5 = .ok (.aload_n 0, 1) := by decide +kernel
theorem dJ0_length_8abf5_6 : decode cJ0_length_8abf5 6 = .ok (.invokevirtual 335, 3) := by decide +kernel
theorem dJ0_length_8abf5_9 : decode cJ0_length_8abf5 9 = .ok (.ishr, 1) := by decide +kernel
theorem dJ0_length_8abf5_10 : decode cJ0_length_8abf5 10 = .ok (.ireturn, 1) := by decide +kernel
theorem dJ0_coder_7d493_0 : decode cJ0_coder_7d493 0 = .ok (.getstatic 38, 3) := by decide +kernel
theorem dJ0_coder_7d493_3 : decode cJ0_coder_7d493 3 = .ok (.ifCond .eq 10, 3) := by decide +kernel
theorem dJ0_coder_7d493_6 : decode cJ0_coder_7d493 6 = .ok (.aload_n 0, 1) := by decide +kernel
theorem dJ0_coder_7d493_7 : decode cJ0_coder_7d493 7 = .ok (.getfield 15, 3) := by decide +kernel
theorem dJ0_coder_7d493_10 : decode cJ0_coder_7d493 10 = .ok (.goto 4, 3) := by decide +kernel
theorem dJ0_coder_7d493_13 : decode cJ0_coder_7d493 13 = .ok (.iconst 1, 1) := by decide +kernel
theorem dJ0_coder_7d493_14 : decode cJ0_coder_7d493 14 = .ok (.ireturn, 1) := by decide +kernel
theorem tb_122 : (Jvm.Cond.instanceMethod ({ cls := "java/lang/String", name := "length", desc := "()I" } : Jvm.MethodName)) ∈ fx_TB := fx_m1 122 (by decide +kernel) rfl
theorem tb_123 : (Jvm.Cond.selects "java/lang/String" ({ cls := "java/lang/String", name := "length", desc := "()I" } : Jvm.MethodName) ({ cls := "java/lang/String", name := "length", desc := "()I" } : Jvm.MethodName)) ∈ fx_TB := fx_m1 123 (by decide +kernel) rfl
theorem tb_124 : (Jvm.Cond.code ({ cls := "java/lang/String", name := "length", desc := "()I" } : Jvm.MethodName) prog_18_method_54_code (1 : Nat) (Option.some Jvm.ClassFile.FieldType.int)) ∈ fx_TB := fx_m1 124 (by decide +kernel) rfl
theorem tb_125 : (Jvm.Cond.methodLink "java/lang/String" (335 : Nat) ({ cls := "java/lang/String", name := "coder", desc := "()B" } : Jvm.MethodName)) ∈ fx_TB := fx_m1 125 (by decide +kernel) rfl
theorem tb_126 : (Jvm.Cond.instanceMethod ({ cls := "java/lang/String", name := "coder", desc := "()B" } : Jvm.MethodName)) ∈ fx_TB := fx_m1 126 (by decide +kernel) rfl
theorem tb_127 : (Jvm.Cond.selects "java/lang/String" ({ cls := "java/lang/String", name := "coder", desc := "()B" } : Jvm.MethodName) ({ cls := "java/lang/String", name := "coder", desc := "()B" } : Jvm.MethodName)) ∈ fx_TB := fx_m1 127 (by decide +kernel) rfl
theorem tb_128 : (Jvm.Cond.code ({ cls := "java/lang/String", name := "coder", desc := "()B" } : Jvm.MethodName) prog_18_method_152_code (1 : Nat) (Option.some Jvm.ClassFile.FieldType.byte)) ∈ fx_TB := fx_m1 128 (by decide +kernel) rfl
theorem tb_129 : (Jvm.Cond.fieldLink "java/lang/String" (38 : Nat) "java/lang/String" "COMPACT_STRINGS" "Z") ∈ fx_TB := fx_m1 129 (by decide +kernel) rfl
theorem tb_1629 : (Jvm.Cond.fieldLink "java/lang/String" (9 : Nat) "java/lang/String" "value" "[B") ∈ fx_TB := fx_m7 189 (by decide +kernel) rfl
theorem tb_1630 : (Jvm.Cond.fieldLink "java/lang/String" (15 : Nat) "java/lang/String" "coder" "B") ∈ fx_TB := fx_m7 190 (by decide +kernel) rfl

def fx_SC (b aK : Nat) (U : State) : Prop := va_OF "java/lang/String" "coder" "B" (.int 0) aK (fun q => b ≤ q) U U.heap ∧ va_Z "java/lang/String" "COMPACT_STRINGS" "Z" (.int 1) (fun q => b ≤ q) U U.heap
def fx_SL (b aK aV : Nat) (U : State) : Prop := va_O "java/lang/String" aK (fun q => b ≤ q) U U.heap ∧ va_OF "java/lang/String" "value" "[B" (.ref aV) aK (fun q => b ≤ q) U U.heap ∧ va_T .byte aV 10 (fun j => .int (fx_LB j)) (fun q => b ≤ q) U U.heap ∧ fx_SC b aK U
theorem fx_SC.to {b aK : Nat} {s U : State} {locs : List Loc} (h : fx_SC b aK s) (hW : s.vm.Alike U.vm) (hS : va_S (fun q => b ≤ q) s.heap U.heap locs) : fx_SC b aK U := ⟨va_OF.moved hW (h.1.kept hS.2.1), va_Z.moved hW (h.2.kept hS.2.1)⟩
theorem fx_SL.to {b aK aV : Nat} {s U : State} {locs : List Loc} (h : fx_SL b aK aV s) (hW : s.vm.Alike U.vm) (hS : va_S (fun q => b ≤ q) s.heap U.heap locs) : fx_SL b aK aV U := ⟨va_O.moved hW (h.1.kept hS.2.1), va_OF.moved hW (h.2.1.kept hS.2.1), va_T.moved hW (h.2.2.1.kept hS.2.1), h.2.2.2.to hW hS⟩
theorem fx_SC.same {b aK : Nat} {u U : State} (h : fx_SC b aK u) (ha : u.vm.Alike U.vm) (hh : U.heap = u.heap) : fx_SC b aK U := by
  obtain ⟨h1, h2⟩ := h
  rw [← hh] at h1 h2
  exact ⟨va_OF.moved ha h1, va_Z.moved ha h2⟩
theorem fx_SL.same {b aK aV : Nat} {u U : State} (h : fx_SL b aK aV u) (ha : u.vm.Alike U.vm) (hh : U.heap = u.heap) : fx_SL b aK aV U := by
  obtain ⟨h1, h2, h3, h4⟩ := h
  refine ⟨?_, ?_, ?_, h4.same ha hh⟩
  · rw [hh]; exact va_O.moved ha h1
  · rw [hh]; exact va_OF.moved ha h2
  · rw [hh]; exact va_T.moved ha h3
def fx_jC : Md := (yJ0_coder_7d493, cJ0_coder_7d493, 1, some .byte)
def fx_jL : Md := (yJ0_length_8abf5, cJ0_length_8abf5, 1, some .int)
set_option maxHeartbeats 4000000 in
set_option maxRecDepth 100000 in
theorem fx_coder (l : Launch) (b aK : Nat) : Met l fx_jC.1 (fx_ws fx_jC) (fx_rm 0 0 0) (va_Pc [.ref aK] (fx_SC b aK)) (vp_Si (fun r => r = 0)) 0 0 (fun _ => False) := by
  refine Met.ofW (cc := fx_jC.2.1) (maxL := 1) (ret := some .byte) (by decide) rfl ?_
  intro p e s m args below meth c s₁ B hml hv
  obtain ⟨rfl, h1, h2⟩ := hv
  have hx := B.exec
  have hb := B.bytes
  have hr := B.returns
  have hts := atoms_spec (ws := fx_ws fx_jC) B.pre
  have hown : s.vm.findClass "java/lang/String" = some m.cls := findClass_of_methodNamed B.named
  have hlocks := B.notSynchronized
  have hS : va_S (fun q => b ≤ q) s.heap s.heap [] := va_S.rf
  have hl := lv_entry ([.ref aK]) (n := 1) (Nat.le_of_ble_eq_true rfl)
  rw [lg_entry_eq]
  generalize (lg_sl ([.ref aK]) ++ List.replicate (1 - (lg_sl ([.ref aK])).length) Slot.unset).toArray = ls at hl ⊢
  have hl : lv_has ls 1 [(0, .ref aK)] := hl
  refine va_gets hx hb h2 hS hown (hts _ (List.mem_cons_of_mem _ tb_129)) (fun x hx => hx) dJ0_coder_7d493_0 ?_
  refine lv_if_eq (tgt := 13) hx hb dJ0_coder_7d493_3 (by decide) (fun c1 => absurd c1 (by decide)) (fun _ => ?_)
  refine lv_aload_n hx hb dJ0_coder_7d493_6 rfl (lv_at hl 0 rfl) ?_
  refine vk_getf hx hb h1 hS hown (hts _ (List.mem_cons_of_mem _ tb_1630)) (fun x hx => hx) dJ0_coder_7d493_7 ?_
  refine lv_goto (tgt := 14) hx hb dJ0_coder_7d493_10 (by decide) ?_
  exact W.zret (ty := .byte) hx hb hr (by rfl) (fun t ht hW => ⟨0, rfl, rfl, ht⟩) (fun q hq => by cases hq) dJ0_coder_7d493_14 hlocks
set_option maxHeartbeats 4000000 in
set_option maxRecDepth 100000 in
theorem fx_length (l : Launch) (b aK aV : Nat) : Met l fx_jL.1 (fx_ws fx_jL) (fx_rm 1 0 0) (va_Pc [.ref aK] (fx_SL b aK aV)) (vp_Si (fun r => r = 10)) 0 0 (fun _ => False) := by
  refine Met.ofW (cc := fx_jL.2.1) (maxL := 1) (ret := some .int) (by decide) rfl ?_
  intro p e s m args below meth c s₁ B hml hv
  obtain ⟨rfl, h0, h1, h2, h3⟩ := hv
  have hx := B.exec
  have hb := B.bytes
  have hr := B.returns
  have hts := atoms_spec (ws := fx_ws fx_jL) B.pre
  have hown : s.vm.findClass "java/lang/String" = some m.cls := findClass_of_methodNamed B.named
  have hlocks := B.notSynchronized
  have hS : va_S (fun q => b ≤ q) s.heap s.heap [] := va_S.rf
  have hl := lv_entry ([.ref aK]) (n := 1) (Nat.le_of_ble_eq_true rfl)
  rw [lg_entry_eq]
  generalize (lg_sl ([.ref aK]) ++ List.replicate (1 - (lg_sl ([.ref aK])).length) Slot.unset).toArray = ls at hl ⊢
  have hl : lv_has ls 1 [(0, .ref aK)] := hl
  refine lv_aload_n hx hb dJ0_length_8abf5_0 rfl (lv_at hl 0 rfl) ?_
  refine vk_getf hx hb h1 hS hown (hts _ (List.mem_cons_of_mem _ tb_1629)) (fun x hx => hx) dJ0_length_8abf5_1 ?_
  refine va_tlen (v := 10) hx hb h2 hS rfl dJ0_length_8abf5_4 ?_
  refine lv_aload_n hx hb dJ0_length_8abf5_5 rfl (lv_at hl 0 rfl) ?_
  have hT : GoodIn (fx_ws fx_jL) (wsV "java/lang/String" 335 "java/lang/String" fx_jC.1 (fx_ws fx_jC)) := fx_goodIn (J' := fx_jC) tb_128 (fun w hw => by
    simp only [List.mem_cons, List.not_mem_nil, or_false] at hw
    rcases hw with rfl | rfl | rfl | rfl
    · exact tb_125
    · exact tb_126
    · exact tb_127
    · exact tb_5)
  obtain ⟨cell, g1, g2, g3, -⟩ := h0
  refine vp_callSi (W.runV (C := "java/lang/String") (As := []) (rest := [.int 10]) ⟨hx, hb, hml, hown, hts⟩ (fx_coder l b aK) (cwV 0 hts hT rfl rfl rfl ⟨rfl, by decide +kernel, by decide +kernel, by decide +kernel⟩ ⟨Nat.le_of_ble_eq_true rfl, Nat.le_of_ble_eq_true rfl⟩) ⟨fun a U g mk q => ⟨q.1, q.2.same (u := U) (U := U.calling g mk a) (Vm.Alike.refl U.vm) rfl⟩, ⟨cell, g1, g2, g3⟩, fun U hU hW => ⟨rfl, h3.to hW.alike (by rw [hU]; exact hS)⟩⟩ rfl rfl hl.1 rfl (lv_room (Nat.le_of_ble_eq_true rfl)) dJ0_length_8abf5_6 ⟨Nat.le_of_ble_eq_true rfl, Nat.le_of_ble_eq_true rfl⟩) (fun r hr9 => ?_)
  subst hr9
  refine lv_ishr hx hb dJ0_length_8abf5_9 ?_
  exact W.iret hx hb hr (fun t ht hW => ⟨_, rfl, by decide, ht⟩) (fun q hq => by cases hq) dJ0_length_8abf5_10 hlocks
set_option maxHeartbeats 4000000 in
/-- "kdfvgmnotw".length() -/
theorem aw_strlen {l : Launch} {D : va_G} {b : Nat} {J : Md} {R : Room} {X : Sc} {FQ : Array Value → List Frame → State → State → Prop} {pc : Nat} {ls : List (Option Value)} {st : List Value} {N : Nat} {V : Wd} {k n : Nat} (hJ : J.1.cls = RX4) (hd1 : decode J.2.1 pc = .ok (.ldc 34, 2)) (hd2 : decode J.2.1 (pc + 2) = .ok (.invokevirtual 36, 3)) (hW : (st.map fun v => v.category).sum ≤ 8) (hR : 3 ≤ R.frames ∧ 20 + 128 ≤ R.locals ∧ k ≤ R.cells ∧ n ≤ R.slots) (h : AW l D b J R X FQ (pc + 2 + 3) ls (.int 10 :: st) N V k n) : AW l D b J R X FQ pc ls st N V k n := by
  intro p e s m args below meth c H locs arr hC hL hA hS
  obtain ⟨hx, hb, hr, hml, hown, hts, hlk, hnm, hK, hsz, hX, hNS, aK, aV, e1, e2, e3, e4, e5, e6, e7⟩ := id hC
  have hown' : s.vm.findClass RX4 = some m.cls := hJ ▸ hown
  refine va_ldcS hx hb hown' e1 hd1 ?_
  have hT : GoodIn (fx_ws J) (wsV RX4 36 "java/lang/String" fx_jL.1 (fx_ws fx_jL)) := fx_goodIn (J' := fx_jL) tb_124 (fun w hw => by
    simp only [List.mem_cons, List.not_mem_nil, or_false] at hw
    rcases hw with rfl | rfl | rfl | rfl
    · exact tb_121
    · exact tb_122
    · exact tb_123
    · exact tb_5)
  obtain ⟨cell, g1, g2, g3, -⟩ := e2.kept hS.2.1
  refine vp_callSi (W.runV (C := "java/lang/String") (As := []) (rest := st) ⟨hx, hb, hml, hown', hts⟩ (fx_length l b aK aV) (cwV 0 hts hT rfl rfl rfl ⟨rfl, by decide +kernel, by decide +kernel, by decide +kernel⟩ ⟨hR.1, hR.2.1⟩) ⟨fun a U g mk q => ⟨q.1, q.2.same (u := U) (U := U.calling g mk a) (Vm.Alike.refl U.vm) rfl⟩, ⟨cell, g1, g2, g3⟩, fun U hU hW9 => ⟨rfl, fx_SL.to (s := s) ⟨e2, e4, e5, e3, e6⟩ hW9.alike (by rw [hU]; exact hS)⟩⟩ rfl rfl hL.1 rfl (lv_room hW) hd2 ⟨hR.2.2.1, hR.2.2.2⟩) (fun r hr9 => ?_)
  subst hr9
  exact h p e s m args below meth c H locs arr hC hL hA hS
end
