theorem tp_0 : (Cond.selects "FearLocks$DreadsReader" ({ cls := "FearLocks$DreadsReader", name := "readFears", desc := "()I" } : Jvm.MethodName) ({ cls := "FearLocks$DreadsReader", name := "readFears", desc := "()I" } : Jvm.MethodName)) ∈ fx_TB := fx_mem 0 (by decide +kernel) rfl
theorem tp_1 : (Cond.selects "FearLocks$DreadsReader" ({ cls := "FearLocks$DreadsReader", name := "change", desc := "(III)V" } : Jvm.MethodName) ({ cls := "FearLocks$DreadsReader", name := "change", desc := "(III)V" } : Jvm.MethodName)) ∈ fx_TB := fx_mem 1 (by decide +kernel) rfl
theorem tp_2 : (Cond.selects "FearLocks$LawReader" ({ cls := "FearLocks$LawReader", name := "readSum", desc := "(I)Z" } : Jvm.MethodName) ({ cls := "FearLocks$LawReader", name := "readSum", desc := "(I)Z" } : Jvm.MethodName)) ∈ fx_TB := fx_mem 2 (by decide +kernel) rfl
theorem tp_3 : (Cond.selects "FearLocks$LawReader" ({ cls := "FearLocks$LawReader", name := "readProduct", desc := "(I)Z" } : Jvm.MethodName) ({ cls := "FearLocks$LawReader", name := "readProduct", desc := "(I)Z" } : Jvm.MethodName)) ∈ fx_TB := fx_mem 3 (by decide +kernel) rfl
theorem tp_4 : (Cond.selects "FearLocks$LawReader" ({ cls := "FearLocks$LawReader", name := "readFactor", desc := "(I)Z" } : Jvm.MethodName) ({ cls := "FearLocks$LawReader", name := "readFactor", desc := "(I)Z" } : Jvm.MethodName)) ∈ fx_TB := fx_mem 4 (by decide +kernel) rfl
theorem tp_5 : (Cond.selects "FearLocks$LawReader" ({ cls := "FearLocks$LawReader", name := "open", desc := "(I)Z" } : Jvm.MethodName) ({ cls := "FearLocks$LawReader", name := "open", desc := "(I)Z" } : Jvm.MethodName)) ∈ fx_TB := fx_mem 5 (by decide +kernel) rfl
theorem tp_6 : (Cond.selects "FearLocks$LawReader" ({ cls := "FearLocks$LawReader", name := "readAnyOf", desc := "(I)Z" } : Jvm.MethodName) ({ cls := "FearLocks$LawReader", name := "readAnyOf", desc := "(I)Z" } : Jvm.MethodName)) ∈ fx_TB := fx_mem 6 (by decide +kernel) rfl
theorem tp_7 : (Cond.selects "FearLocks$LawReader" ({ cls := "FearLocks$LawReader", name := "readAllOf", desc := "(I)Z" } : Jvm.MethodName) ({ cls := "FearLocks$LawReader", name := "readAllOf", desc := "(I)Z" } : Jvm.MethodName)) ∈ fx_TB := fx_mem 7 (by decide +kernel) rfl
theorem tp_8 : (Cond.selects "FearLocks$LawReader" ({ cls := "FearLocks$LawReader", name := "readTest", desc := "(I)Z" } : Jvm.MethodName) ({ cls := "FearLocks$LawReader", name := "readTest", desc := "(I)Z" } : Jvm.MethodName)) ∈ fx_TB := fx_mem 8 (by decide +kernel) rfl
theorem tp_9 : (Cond.selects "FearLocks$LawReader" ({ cls := "FearLocks$LawReader", name := "readNegation", desc := "(I)Z" } : Jvm.MethodName) ({ cls := "FearLocks$LawReader", name := "readNegation", desc := "(I)Z" } : Jvm.MethodName)) ∈ fx_TB := fx_mem 9 (by decide +kernel) rfl
theorem tp_10 : (Cond.selects "FearLocks$LawReader" ({ cls := "FearLocks$LawReader", name := "readComparison", desc := "(I)Z" } : Jvm.MethodName) ({ cls := "FearLocks$LawReader", name := "readComparison", desc := "(I)Z" } : Jvm.MethodName)) ∈ fx_TB := fx_mem 10 (by decide +kernel) rfl
theorem tp_11 : (Cond.selects "FearLocks$OrdersReader" ({ cls := "FearLocks$OrdersReader", name := "readDoor", desc := "()Z" } : Jvm.MethodName) ({ cls := "FearLocks$OrdersReader", name := "readDoor", desc := "()Z" } : Jvm.MethodName)) ∈ fx_TB := fx_mem 11 (by decide +kernel) rfl
theorem tp_12 : (Cond.selects "FearLocks$OrdersReader" ({ cls := "FearLocks$OrdersReader", name := "readLock", desc := "(I)Z" } : Jvm.MethodName) ({ cls := "FearLocks$OrdersReader", name := "readLock", desc := "(I)Z" } : Jvm.MethodName)) ∈ fx_TB := fx_mem 12 (by decide +kernel) rfl
theorem tp_13 : (Cond.selects "FearLocks$OrdersReader" ({ cls := "FearLocks$OrdersReader", name := "readAcquaintance", desc := "()Z" } : Jvm.MethodName) ({ cls := "FearLocks$OrdersReader", name := "readAcquaintance", desc := "()Z" } : Jvm.MethodName)) ∈ fx_TB := fx_mem 13 (by decide +kernel) rfl
theorem tp_14 : (Cond.selects "FearLocks$OrdersReader" ({ cls := "FearLocks$OrdersReader", name := "readPerson", desc := "()I" } : Jvm.MethodName) ({ cls := "FearLocks$OrdersReader", name := "readPerson", desc := "()I" } : Jvm.MethodName)) ∈ fx_TB := fx_mem 14 (by decide +kernel) rfl
theorem tp_15 : (Cond.selects "FearLocks$Nightfall" ({ cls := "FearLocks$Nightfall", name := "goOut", desc := "(LFearLocks$City;LFearLocks$Law;I)V" } : Jvm.MethodName) ({ cls := "FearLocks$Nightfall", name := "goOut", desc := "(LFearLocks$City;LFearLocks$Law;I)V" } : Jvm.MethodName)) ∈ fx_TB := fx_mem 15 (by decide +kernel) rfl
theorem tp_16 : (Cond.selects "FearLocks$Law" ({ cls := "FearLocks$Law", name := "reckon", desc := "(I)I" } : Jvm.MethodName) ({ cls := "FearLocks$Law", name := "reckon", desc := "(I)I" } : Jvm.MethodName)) ∈ fx_TB := fx_mem 16 (by decide +kernel) rfl
theorem tp_17 : (Cond.selects "FearLocks$Law" ({ cls := "FearLocks$Law", name := "push", desc := "(I)V" } : Jvm.MethodName) ({ cls := "FearLocks$Law", name := "push", desc := "(I)V" } : Jvm.MethodName)) ∈ fx_TB := fx_mem 17 (by decide +kernel) rfl
theorem tp_18 : (Cond.selects "FearLocks$Law" ({ cls := "FearLocks$Law", name := "meaningOf", desc := "(I)I" } : Jvm.MethodName) ({ cls := "FearLocks$Law", name := "meaningOf", desc := "(I)I" } : Jvm.MethodName)) ∈ fx_TB := fx_mem 18 (by decide +kernel) rfl
theorem tp_19 : (Cond.selects "FearLocks$Law" ({ cls := "FearLocks$Law", name := "pop", desc := "()I" } : Jvm.MethodName) ({ cls := "FearLocks$Law", name := "pop", desc := "()I" } : Jvm.MethodName)) ∈ fx_TB := fx_mem 19 (by decide +kernel) rfl
theorem tp_20 : (Cond.selects "FearLocks$Nightfall" ({ cls := "FearLocks$Nightfall", name := "tryDoor", desc := "(LFearLocks$City;LFearLocks$Law;II)V" } : Jvm.MethodName) ({ cls := "FearLocks$Nightfall", name := "tryDoor", desc := "(LFearLocks$City;LFearLocks$Law;II)V" } : Jvm.MethodName)) ∈ fx_TB := fx_mem 20 (by decide +kernel) rfl
theorem tp_21 : (Cond.selects "FearLocks$Nightfall" ({ cls := "FearLocks$Nightfall", name := "spreadDread", desc := "(LFearLocks$City;LFearLocks$Law;)V" } : Jvm.MethodName) ({ cls := "FearLocks$Nightfall", name := "spreadDread", desc := "(LFearLocks$City;LFearLocks$Law;)V" } : Jvm.MethodName)) ∈ fx_TB := fx_mem 21 (by decide +kernel) rfl
theorem tp_22 : (Cond.selects "FearLocks$Nightfall" ({ cls := "FearLocks$Nightfall", name := "catchDread", desc := "(LFearLocks$City;LFearLocks$Law;II)V" } : Jvm.MethodName) ({ cls := "FearLocks$Nightfall", name := "catchDread", desc := "(LFearLocks$City;LFearLocks$Law;II)V" } : Jvm.MethodName)) ∈ fx_TB := fx_mem 22 (by decide +kernel) rfl
theorem tp_23 : (Cond.selects "FearLocks" ({ cls := "FearLocks", name := "canBeTried", desc := "(I)Z" } : Jvm.MethodName) ({ cls := "FearLocks", name := "canBeTried", desc := "(I)Z" } : Jvm.MethodName)) ∈ fx_TB := fx_mem 23 (by decide +kernel) rfl
theorem tp_24 : (Cond.selects "FearLocks$Keys" ({ cls := "FearLocks$Keys", name := "openedBy", desc := "(I)I" } : Jvm.MethodName) ({ cls := "FearLocks$Keys", name := "openedBy", desc := "(I)I" } : Jvm.MethodName)) ∈ fx_TB := fx_mem 24 (by decide +kernel) rfl
theorem tp_25 : (Cond.selects "FearLocks$Company" ({ cls := "FearLocks$Company", name := "linkFellows", desc := "(LFearLocks$City;I)V" } : Jvm.MethodName) ({ cls := "FearLocks$Company", name := "linkFellows", desc := "(LFearLocks$City;I)V" } : Jvm.MethodName)) ∈ fx_TB := fx_mem 25 (by decide +kernel) rfl
theorem tp_26 : (Cond.selects "FearLocks$Company" ({ cls := "FearLocks$Company", name := "mostWith", desc := "(II)I" } : Jvm.MethodName) ({ cls := "FearLocks$Company", name := "mostWith", desc := "(II)I" } : Jvm.MethodName)) ∈ fx_TB := fx_mem 26 (by decide +kernel) rfl
theorem tp_27 : (Cond.selects "FearLocks$Pastimes" ({ cls := "FearLocks$Pastimes", name := "wordsWithOneMore", desc := "(II)J" } : Jvm.MethodName) ({ cls := "FearLocks$Pastimes", name := "wordsWithOneMore", desc := "(II)J" } : Jvm.MethodName)) ∈ fx_TB := fx_mem 27 (by decide +kernel) rfl
theorem tp_28 : (Cond.selects "FearLocksModel" ({ cls := "FearLocksModel", name := "types", desc := "(I)V" } : Jvm.MethodName) ({ cls := "FearLocksModel", name := "types", desc := "(I)V" } : Jvm.MethodName)) ∈ fx_TB := fx_mem 28 (by decide +kernel) rfl
theorem tp_29 : (Cond.selects "FearLocksModel" ({ cls := "FearLocksModel", name := "beginsText", desc := "(I)V" } : Jvm.MethodName) ({ cls := "FearLocksModel", name := "beginsText", desc := "(I)V" } : Jvm.MethodName)) ∈ fx_TB := fx_mem 29 (by decide +kernel) rfl
theorem tp_30 : (Cond.selects "FearLocksModel" ({ cls := "FearLocksModel", name := "readsRule", desc := "()Z" } : Jvm.MethodName) ({ cls := "FearLocksModel", name := "readsRule", desc := "()Z" } : Jvm.MethodName)) ∈ fx_TB := fx_mem 30 (by decide +kernel) rfl
theorem tp_31 : (Cond.selects "FearLocksModel" ({ cls := "FearLocksModel", name := "here", desc := "()I" } : Jvm.MethodName) ({ cls := "FearLocksModel", name := "here", desc := "()I" } : Jvm.MethodName)) ∈ fx_TB := fx_mem 31 (by decide +kernel) rfl
theorem tp_32 : (Cond.selects "FearLocksModel" ({ cls := "FearLocksModel", name := "wrongAt", desc := "(II)Z" } : Jvm.MethodName) ({ cls := "FearLocksModel", name := "wrongAt", desc := "(II)Z" } : Jvm.MethodName)) ∈ fx_TB := fx_mem 32 (by decide +kernel) rfl
theorem tp_33 : (Cond.selects "FearLocksModel" ({ cls := "FearLocksModel", name := "readsSum", desc := "()Z" } : Jvm.MethodName) ({ cls := "FearLocksModel", name := "readsSum", desc := "()Z" } : Jvm.MethodName)) ∈ fx_TB := fx_mem 33 (by decide +kernel) rfl
theorem tp_34 : (Cond.selects "FearLocksModel" ({ cls := "FearLocksModel", name := "readsFactor", desc := "()Z" } : Jvm.MethodName) ({ cls := "FearLocksModel", name := "readsFactor", desc := "()Z" } : Jvm.MethodName)) ∈ fx_TB := fx_mem 34 (by decide +kernel) rfl
theorem tp_35 : (Cond.selects "FearLocksModel" ({ cls := "FearLocksModel", name := "opens", desc := "(I)Z" } : Jvm.MethodName) ({ cls := "FearLocksModel", name := "opens", desc := "(I)Z" } : Jvm.MethodName)) ∈ fx_TB := fx_mem 35 (by decide +kernel) rfl
theorem tp_36 : (Cond.selects "FearLocksModel" ({ cls := "FearLocksModel", name := "isDigit", desc := "()Z" } : Jvm.MethodName) ({ cls := "FearLocksModel", name := "isDigit", desc := "()Z" } : Jvm.MethodName)) ∈ fx_TB := fx_mem 36 (by decide +kernel) rfl
theorem tp_37 : (Cond.selects "FearLocksModel" ({ cls := "FearLocksModel", name := "readsNumber", desc := "()Z" } : Jvm.MethodName) ({ cls := "FearLocksModel", name := "readsNumber", desc := "()Z" } : Jvm.MethodName)) ∈ fx_TB := fx_mem 37 (by decide +kernel) rfl
theorem tp_38 : (Cond.selects "FearLocksModel" ({ cls := "FearLocksModel", name := "notes", desc := "(II)V" } : Jvm.MethodName) ({ cls := "FearLocksModel", name := "notes", desc := "(II)V" } : Jvm.MethodName)) ∈ fx_TB := fx_mem 38 (by decide +kernel) rfl
theorem tp_39 : (Cond.selects "FearLocksModel" ({ cls := "FearLocksModel", name := "closesSums", desc := "(Z)V" } : Jvm.MethodName) ({ cls := "FearLocksModel", name := "closesSums", desc := "(Z)V" } : Jvm.MethodName)) ∈ fx_TB := fx_mem 39 (by decide +kernel) rfl
theorem tp_40 : (Cond.selects "FearLocksModel" ({ cls := "FearLocksModel", name := "waitTop", desc := "()I" } : Jvm.MethodName) ({ cls := "FearLocksModel", name := "waitTop", desc := "()I" } : Jvm.MethodName)) ∈ fx_TB := fx_mem 40 (by decide +kernel) rfl
theorem tp_41 : (Cond.selects "FearLocksModel" ({ cls := "FearLocksModel", name := "hasOpenSum", desc := "(I)Z" } : Jvm.MethodName) ({ cls := "FearLocksModel", name := "hasOpenSum", desc := "(I)Z" } : Jvm.MethodName)) ∈ fx_TB := fx_mem 41 (by decide +kernel) rfl
theorem tp_42 : (Cond.selects "FearLocksModel" ({ cls := "FearLocksModel", name := "readsCondition", desc := "()Z" } : Jvm.MethodName) ({ cls := "FearLocksModel", name := "readsCondition", desc := "()Z" } : Jvm.MethodName)) ∈ fx_TB := fx_mem 42 (by decide +kernel) rfl
theorem tp_43 : (Cond.selects "FearLocksModel" ({ cls := "FearLocksModel", name := "readsCompared", desc := "()Z" } : Jvm.MethodName) ({ cls := "FearLocksModel", name := "readsCompared", desc := "()Z" } : Jvm.MethodName)) ∈ fx_TB := fx_mem 43 (by decide +kernel) rfl
theorem tp_44 : (Cond.selects "FearLocksModel" ({ cls := "FearLocksModel", name := "endsPiece", desc := "()V" } : Jvm.MethodName) ({ cls := "FearLocksModel", name := "endsPiece", desc := "()V" } : Jvm.MethodName)) ∈ fx_TB := fx_mem 44 (by decide +kernel) rfl
theorem tp_45 : (Cond.selects "FearLocksModel" ({ cls := "FearLocksModel", name := "lands", desc := "(Z)V" } : Jvm.MethodName) ({ cls := "FearLocksModel", name := "lands", desc := "(Z)V" } : Jvm.MethodName)) ∈ fx_TB := fx_mem 45 (by decide +kernel) rfl
theorem tp_46 : (Cond.selects "FearLocksModel" ({ cls := "FearLocksModel", name := "jumps", desc := "(I)V" } : Jvm.MethodName) ({ cls := "FearLocksModel", name := "jumps", desc := "(I)V" } : Jvm.MethodName)) ∈ fx_TB := fx_mem 46 (by decide +kernel) rfl
theorem tp_47 : (Cond.selects "FearLocksModel" ({ cls := "FearLocksModel", name := "takes", desc := "(I)Z" } : Jvm.MethodName) ({ cls := "FearLocksModel", name := "takes", desc := "(I)Z" } : Jvm.MethodName)) ∈ fx_TB := fx_mem 47 (by decide +kernel) rfl
theorem tp_48 : (Cond.selects "FearLocksModel" ({ cls := "FearLocksModel", name := "readsDread", desc := "(I)Z" } : Jvm.MethodName) ({ cls := "FearLocksModel", name := "readsDread", desc := "(I)Z" } : Jvm.MethodName)) ∈ fx_TB := fx_mem 48 (by decide +kernel) rfl
theorem tp_49 : (Cond.selects "FearLocksModel" ({ cls := "FearLocksModel", name := "isLetter", desc := "()Z" } : Jvm.MethodName) ({ cls := "FearLocksModel", name := "isLetter", desc := "()Z" } : Jvm.MethodName)) ∈ fx_TB := fx_mem 49 (by decide +kernel) rfl
theorem tp_50 : (Cond.selects "FearLocksModel" ({ cls := "FearLocksModel", name := "readsMeant", desc := "()Z" } : Jvm.MethodName) ({ cls := "FearLocksModel", name := "readsMeant", desc := "()Z" } : Jvm.MethodName)) ∈ fx_TB := fx_mem 50 (by decide +kernel) rfl
theorem tp_51 : (Cond.selects "FearLocksModel" ({ cls := "FearLocksModel", name := "readsAmount", desc := "()Z" } : Jvm.MethodName) ({ cls := "FearLocksModel", name := "readsAmount", desc := "()Z" } : Jvm.MethodName)) ∈ fx_TB := fx_mem 51 (by decide +kernel) rfl
theorem tp_52 : (Cond.selects "FearLocksModel" ({ cls := "FearLocksModel", name := "laysAside", desc := "()V" } : Jvm.MethodName) ({ cls := "FearLocksModel", name := "laysAside", desc := "()V" } : Jvm.MethodName)) ∈ fx_TB := fx_mem 52 (by decide +kernel) rfl
theorem tp_53 : (Cond.selects "FearLocksModel" ({ cls := "FearLocksModel", name := "readsOrder", desc := "()Z" } : Jvm.MethodName) ({ cls := "FearLocksModel", name := "readsOrder", desc := "()Z" } : Jvm.MethodName)) ∈ fx_TB := fx_mem 53 (by decide +kernel) rfl
theorem tp_54 : (Cond.selects "FearLocksModel" ({ cls := "FearLocksModel", name := "readsTwo", desc := "()Z" } : Jvm.MethodName) ({ cls := "FearLocksModel", name := "readsTwo", desc := "()Z" } : Jvm.MethodName)) ∈ fx_TB := fx_mem 54 (by decide +kernel) rfl
theorem tp_55 : (Cond.selects "FearLocksModel" ({ cls := "FearLocksModel", name := "readsOne", desc := "()Z" } : Jvm.MethodName) ({ cls := "FearLocksModel", name := "readsOne", desc := "()Z" } : Jvm.MethodName)) ∈ fx_TB := fx_mem 55 (by decide +kernel) rfl
theorem tp_56 : (Cond.selects "FearLocksModel" ({ cls := "FearLocksModel", name := "isTold", desc := "(I)Z" } : Jvm.MethodName) ({ cls := "FearLocksModel", name := "isTold", desc := "(I)Z" } : Jvm.MethodName)) ∈ fx_TB := fx_mem 56 (by decide +kernel) rfl
theorem tp_57 : (Cond.selects "FearLocksModel" ({ cls := "FearLocksModel", name := "readsDoor", desc := "()Z" } : Jvm.MethodName) ({ cls := "FearLocksModel", name := "readsDoor", desc := "()Z" } : Jvm.MethodName)) ∈ fx_TB := fx_mem 57 (by decide +kernel) rfl
theorem tp_58 : (Cond.selects "FearLocksModel" ({ cls := "FearLocksModel", name := "isDoor", desc := "(I)Z" } : Jvm.MethodName) ({ cls := "FearLocksModel", name := "isDoor", desc := "(I)Z" } : Jvm.MethodName)) ∈ fx_TB := fx_mem 58 (by decide +kernel) rfl
theorem tp_59 : (Cond.selects "FearLocksModel" ({ cls := "FearLocksModel", name := "putsBack", desc := "()V" } : Jvm.MethodName) ({ cls := "FearLocksModel", name := "putsBack", desc := "()V" } : Jvm.MethodName)) ∈ fx_TB := fx_mem 59 (by decide +kernel) rfl
theorem tp_60 : (Cond.selects "FearLocksModel" ({ cls := "FearLocksModel", name := "nightsGo", desc := "(I)V" } : Jvm.MethodName) ({ cls := "FearLocksModel", name := "nightsGo", desc := "(I)V" } : Jvm.MethodName)) ∈ fx_TB := fx_mem 60 (by decide +kernel) rfl
theorem tp_61 : (Cond.selects "FearLocksModel" ({ cls := "FearLocksModel", name := "nightGoes", desc := "()V" } : Jvm.MethodName) ({ cls := "FearLocksModel", name := "nightGoes", desc := "()V" } : Jvm.MethodName)) ∈ fx_TB := fx_mem 61 (by decide +kernel) rfl
theorem tp_62 : (Cond.selects "FearLocksModel" ({ cls := "FearLocksModel", name := "goesOut", desc := "(I)V" } : Jvm.MethodName) ({ cls := "FearLocksModel", name := "goesOut", desc := "(I)V" } : Jvm.MethodName)) ∈ fx_TB := fx_mem 62 (by decide +kernel) rfl
theorem tp_63 : (Cond.selects "FearLocksModel" ({ cls := "FearLocksModel", name := "feels", desc := "(II)V" } : Jvm.MethodName) ({ cls := "FearLocksModel", name := "feels", desc := "(II)V" } : Jvm.MethodName)) ∈ fx_TB := fx_mem 63 (by decide +kernel) rfl
theorem tp_64 : (Cond.selects "FearLocksModel" ({ cls := "FearLocksModel", name := "greatest", desc := "(I)I" } : Jvm.MethodName) ({ cls := "FearLocksModel", name := "greatest", desc := "(I)I" } : Jvm.MethodName)) ∈ fx_TB := fx_mem 64 (by decide +kernel) rfl
theorem tp_65 : (Cond.selects "FearLocksModel" ({ cls := "FearLocksModel", name := "dread", desc := "(II)I" } : Jvm.MethodName) ({ cls := "FearLocksModel", name := "dread", desc := "(II)I" } : Jvm.MethodName)) ∈ fx_TB := fx_mem 65 (by decide +kernel) rfl
theorem tp_66 : (Cond.selects "FearLocksModel" ({ cls := "FearLocksModel", name := "holdsAny", desc := "(I)Z" } : Jvm.MethodName) ({ cls := "FearLocksModel", name := "holdsAny", desc := "(I)Z" } : Jvm.MethodName)) ∈ fx_TB := fx_mem 66 (by decide +kernel) rfl
theorem tp_67 : (Cond.selects "FearLocksModel" ({ cls := "FearLocksModel", name := "reckonsTo", desc := "(II)I" } : Jvm.MethodName) ({ cls := "FearLocksModel", name := "reckonsTo", desc := "(II)I" } : Jvm.MethodName)) ∈ fx_TB := fx_mem 67 (by decide +kernel) rfl
theorem tp_68 : (Cond.selects "FearLocksModel" ({ cls := "FearLocksModel", name := "likedMost", desc := "(II)I" } : Jvm.MethodName) ({ cls := "FearLocksModel", name := "likedMost", desc := "(II)I" } : Jvm.MethodName)) ∈ fx_TB := fx_mem 68 (by decide +kernel) rfl
theorem tp_69 : (Cond.selects "FearLocksModel" ({ cls := "FearLocksModel", name := "feelsDoor", desc := "(III)V" } : Jvm.MethodName) ({ cls := "FearLocksModel", name := "feelsDoor", desc := "(III)V" } : Jvm.MethodName)) ∈ fx_TB := fx_mem 69 (by decide +kernel) rfl
theorem tp_70 : (Cond.selects "FearLocksModel" ({ cls := "FearLocksModel", name := "byLaw", desc := "(II)I" } : Jvm.MethodName) ({ cls := "FearLocksModel", name := "byLaw", desc := "(II)I" } : Jvm.MethodName)) ∈ fx_TB := fx_mem 70 (by decide +kernel) rfl
theorem tp_71 : (Cond.selects "FearLocksModel" ({ cls := "FearLocksModel", name := "triesDoor", desc := "(III)V" } : Jvm.MethodName) ({ cls := "FearLocksModel", name := "triesDoor", desc := "(III)V" } : Jvm.MethodName)) ∈ fx_TB := fx_mem 71 (by decide +kernel) rfl
theorem tp_72 : (Cond.selects "FearLocksModel" ({ cls := "FearLocksModel", name := "unlocks", desc := "(II)Z" } : Jvm.MethodName) ({ cls := "FearLocksModel", name := "unlocks", desc := "(II)Z" } : Jvm.MethodName)) ∈ fx_TB := fx_mem 72 (by decide +kernel) rfl
theorem tp_73 : (Cond.selects "FearLocksModel" ({ cls := "FearLocksModel", name := "fearOf", desc := "(I)I" } : Jvm.MethodName) ({ cls := "FearLocksModel", name := "fearOf", desc := "(I)I" } : Jvm.MethodName)) ∈ fx_TB := fx_mem 73 (by decide +kernel) rfl
theorem tp_74 : (Cond.selects "FearLocksModel" ({ cls := "FearLocksModel", name := "catches", desc := "()V" } : Jvm.MethodName) ({ cls := "FearLocksModel", name := "catches", desc := "()V" } : Jvm.MethodName)) ∈ fx_TB := fx_mem 74 (by decide +kernel) rfl
theorem tp_75 : (Cond.selects "FearLocksModel" ({ cls := "FearLocksModel", name := "caughtBy", desc := "(II)I" } : Jvm.MethodName) ({ cls := "FearLocksModel", name := "caughtBy", desc := "(II)I" } : Jvm.MethodName)) ∈ fx_TB := fx_mem 75 (by decide +kernel) rfl
theorem tp_76 : (Cond.selects "FearLocksModel" ({ cls := "FearLocksModel", name := "doorsOf", desc := "(I)I" } : Jvm.MethodName) ({ cls := "FearLocksModel", name := "doorsOf", desc := "(I)I" } : Jvm.MethodName)) ∈ fx_TB := fx_mem 76 (by decide +kernel) rfl
theorem tp_77 : (Cond.selects "FearLocksModel" ({ cls := "FearLocksModel", name := "dreadSum", desc := "(I)I" } : Jvm.MethodName) ({ cls := "FearLocksModel", name := "dreadSum", desc := "(I)I" } : Jvm.MethodName)) ∈ fx_TB := fx_mem 77 (by decide +kernel) rfl
theorem tp_78 : (Cond.selects "FearLocksModel" ({ cls := "FearLocksModel", name := "whoUnlocks", desc := "(I)I" } : Jvm.MethodName) ({ cls := "FearLocksModel", name := "whoUnlocks", desc := "(I)I" } : Jvm.MethodName)) ∈ fx_TB := fx_mem 78 (by decide +kernel) rfl
theorem tp_79 : (Cond.selects "FearLocksModel" ({ cls := "FearLocksModel", name := "laysWho", desc := "()V" } : Jvm.MethodName) ({ cls := "FearLocksModel", name := "laysWho", desc := "()V" } : Jvm.MethodName)) ∈ fx_TB := fx_mem 79 (by decide +kernel) rfl
theorem tp_80 : (Cond.selects "FearLocksModel" ({ cls := "FearLocksModel", name := "isCrew", desc := "(I)Z" } : Jvm.MethodName) ({ cls := "FearLocksModel", name := "isCrew", desc := "(I)Z" } : Jvm.MethodName)) ∈ fx_TB := fx_mem 80 (by decide +kernel) rfl
theorem tp_81 : (Cond.selects "FearLocksModel" ({ cls := "FearLocksModel", name := "areCouple", desc := "(III)Z" } : Jvm.MethodName) ({ cls := "FearLocksModel", name := "areCouple", desc := "(III)Z" } : Jvm.MethodName)) ∈ fx_TB := fx_mem 81 (by decide +kernel) rfl
theorem tp_82 : (Cond.selects "FearLocksModel" ({ cls := "FearLocksModel", name := "firstWith", desc := "(I)I" } : Jvm.MethodName) ({ cls := "FearLocksModel", name := "firstWith", desc := "(I)I" } : Jvm.MethodName)) ∈ fx_TB := fx_mem 82 (by decide +kernel) rfl
theorem tp_83 : (Cond.selects "FearLocksModel" ({ cls := "FearLocksModel", name := "unlikeBy", desc := "(II)I" } : Jvm.MethodName) ({ cls := "FearLocksModel", name := "unlikeBy", desc := "(II)I" } : Jvm.MethodName)) ∈ fx_TB := fx_mem 83 (by decide +kernel) rfl
theorem tp_84 : (Cond.selects "FearLocksModel" ({ cls := "FearLocksModel", name := "circleOf", desc := "(II)I" } : Jvm.MethodName) ({ cls := "FearLocksModel", name := "circleOf", desc := "(II)I" } : Jvm.MethodName)) ∈ fx_TB := fx_mem 84 (by decide +kernel) rfl
theorem tp_85 : (Cond.selects "FearLocksModel" ({ cls := "FearLocksModel", name := "isKeystone", desc := "(I)Z" } : Jvm.MethodName) ({ cls := "FearLocksModel", name := "isKeystone", desc := "(I)Z" } : Jvm.MethodName)) ∈ fx_TB := fx_mem 85 (by decide +kernel) rfl
theorem tp_86 : (Cond.selects "FearLocksModel" ({ cls := "FearLocksModel", name := "groupOf", desc := "(II)I" } : Jvm.MethodName) ({ cls := "FearLocksModel", name := "groupOf", desc := "(II)I" } : Jvm.MethodName)) ∈ fx_TB := fx_mem 86 (by decide +kernel) rfl
theorem tp_87 : (Cond.selects "FearLocksModel" ({ cls := "FearLocksModel", name := "octet", desc := "(I)I" } : Jvm.MethodName) ({ cls := "FearLocksModel", name := "octet", desc := "(I)I" } : Jvm.MethodName)) ∈ fx_TB := fx_mem 87 (by decide +kernel) rfl
theorem tp_88 : (Cond.selects "FearLocksModel" ({ cls := "FearLocksModel", name := "bounds", desc := "(II)Z" } : Jvm.MethodName) ({ cls := "FearLocksModel", name := "bounds", desc := "(II)Z" } : Jvm.MethodName)) ∈ fx_TB := fx_mem 88 (by decide +kernel) rfl
theorem tp_89 : (Cond.selects "FearLocksModel" ({ cls := "FearLocksModel", name := "leaves", desc := "(II)I" } : Jvm.MethodName) ({ cls := "FearLocksModel", name := "leaves", desc := "(II)I" } : Jvm.MethodName)) ∈ fx_TB := fx_mem 89 (by decide +kernel) rfl
theorem tp_90 : (Cond.selects "FearLocksModel" ({ cls := "FearLocksModel", name := "canStand", desc := "(I)Z" } : Jvm.MethodName) ({ cls := "FearLocksModel", name := "canStand", desc := "(I)Z" } : Jvm.MethodName)) ∈ fx_TB := fx_mem 90 (by decide +kernel) rfl
theorem tp_91 : (Cond.selects "FearLocksModel" ({ cls := "FearLocksModel", name := "nextOrder", desc := "(I)Z" } : Jvm.MethodName) ({ cls := "FearLocksModel", name := "nextOrder", desc := "(I)Z" } : Jvm.MethodName)) ∈ fx_TB := fx_mem 91 (by decide +kernel) rfl
theorem tp_92 : (Cond.selects "FearLocksModel" ({ cls := "FearLocksModel", name := "changesOrder", desc := "(II)V" } : Jvm.MethodName) ({ cls := "FearLocksModel", name := "changesOrder", desc := "(II)V" } : Jvm.MethodName)) ∈ fx_TB := fx_mem 92 (by decide +kernel) rfl
theorem tp_93 : (Cond.selects "FearLocksModel" ({ cls := "FearLocksModel", name := "sleeps", desc := "(III)I" } : Jvm.MethodName) ({ cls := "FearLocksModel", name := "sleeps", desc := "(III)I" } : Jvm.MethodName)) ∈ fx_TB := fx_mem 93 (by decide +kernel) rfl
theorem tp_94 : (Cond.selects "FearLocksModel" ({ cls := "FearLocksModel", name := "twos", desc := "()I" } : Jvm.MethodName) ({ cls := "FearLocksModel", name := "twos", desc := "()I" } : Jvm.MethodName)) ∈ fx_TB := fx_mem 94 (by decide +kernel) rfl
theorem tp_95 : (Cond.selects "FearLocksModel" ({ cls := "FearLocksModel", name := "openedOfAll", desc := "()I" } : Jvm.MethodName) ({ cls := "FearLocksModel", name := "openedOfAll", desc := "()I" } : Jvm.MethodName)) ∈ fx_TB := fx_mem 95 (by decide +kernel) rfl
theorem tb_0 : (Jvm.Cond.initialized "FearLocksLaw") ∈ fx_TB := fx_mem 96 (by decide +kernel) rfl
theorem tb_1 : (Jvm.Cond.initialized "FearLocks") ∈ fx_TB := fx_mem 97 (by decide +kernel) rfl
theorem tb_2 : (Jvm.Cond.initialized "FearLocks$Tape") ∈ fx_TB := fx_mem 98 (by decide +kernel) rfl
theorem tb_3 : (Jvm.Cond.initialized "FearLocks$City") ∈ fx_TB := fx_mem 99 (by decide +kernel) rfl
theorem tb_4 : (Jvm.Cond.initialized "FearLocks$Law") ∈ fx_TB := fx_mem 100 (by decide +kernel) rfl
theorem tb_5 : (Jvm.Cond.initialized "java/lang/String") ∈ fx_TB := fx_mem 101 (by decide +kernel) rfl
theorem tb_6 : (Jvm.Cond.initialized "FearLocks$Nightfall") ∈ fx_TB := fx_mem 102 (by decide +kernel) rfl
theorem tb_7 : (Jvm.Cond.initialized "FearLocks$Keys") ∈ fx_TB := fx_mem 103 (by decide +kernel) rfl
theorem tb_8 : (Jvm.Cond.initialized "FearLocks$Company") ∈ fx_TB := fx_mem 104 (by decide +kernel) rfl
theorem tb_9 : (Jvm.Cond.initialized "FearLocks$Pastimes") ∈ fx_TB := fx_mem 105 (by decide +kernel) rfl
theorem tb_10 : (Jvm.Cond.initialized "FearLocksModel") ∈ fx_TB := fx_mem 106 (by decide +kernel) rfl
theorem tb_11 : (Jvm.Cond.initialized "FearLocks$LinesReader") ∈ fx_TB := fx_mem 107 (by decide +kernel) rfl
theorem tb_12 : (Jvm.Cond.initialized "FearLocks$LawReader") ∈ fx_TB := fx_mem 108 (by decide +kernel) rfl
theorem tb_13 : (Jvm.Cond.initialized "java/lang/Math") ∈ fx_TB := fx_mem 109 (by decide +kernel) rfl
theorem tb_14 : (Jvm.Cond.initialized "java/lang/StringLatin1") ∈ fx_TB := fx_mem 110 (by decide +kernel) rfl
theorem tb_15 : (Jvm.Cond.initialized "java/lang/StringUTF16") ∈ fx_TB := fx_mem 111 (by decide +kernel) rfl
theorem tb_16 : (Jvm.Cond.initialized "jdk/internal/util/Preconditions") ∈ fx_TB := fx_mem 112 (by decide +kernel) rfl
theorem tb_17 : (Jvm.Cond.initialized "java/lang/Character") ∈ fx_TB := fx_mem 113 (by decide +kernel) rfl
theorem tb_18 : (Jvm.Cond.initialized "FearLocks$DreadsReader") ∈ fx_TB := fx_mem 114 (by decide +kernel) rfl
theorem tb_19 : (Jvm.Cond.initialized "FearLocks$OrdersReader") ∈ fx_TB := fx_mem 115 (by decide +kernel) rfl
theorem tb_20 : (Jvm.Cond.initialized "java/lang/Integer") ∈ fx_TB := fx_mem 116 (by decide +kernel) rfl
theorem tb_21 : (Jvm.Cond.classLink "FearLocksLaw" (7 : Nat) "FearLocks") ∈ fx_TB := fx_mem 117 (by decide +kernel) rfl
theorem tb_22 : (Jvm.Cond.instantiable "FearLocks" (11 : Nat)) ∈ fx_TB := fx_mem 118 (by decide +kernel) rfl
theorem tb_23 : (Jvm.Cond.methodLink "FearLocksLaw" (9 : Nat) ({ cls := "FearLocks", name := "<init>", desc := "()V" } : Jvm.MethodName)) ∈ fx_TB := fx_mem 119 (by decide +kernel) rfl
theorem tb_24 : (Jvm.Cond.instanceMethod ({ cls := "FearLocks", name := "<init>", desc := "()V" } : Jvm.MethodName)) ∈ fx_TB := fx_mem 120 (by decide +kernel) rfl
theorem tb_25 : (Jvm.Cond.code ({ cls := "FearLocks", name := "<init>", desc := "()V" } : Jvm.MethodName) prog_1_method_1_code (1 : Nat) (Option.none : Option Jvm.ClassFile.FieldType)) ∈ fx_TB := fx_mem 121 (by decide +kernel) rfl
theorem tb_26 : (Jvm.Cond.methodLink "FearLocks" (3 : Nat) ({ cls := "java/lang/Object", name := "<init>", desc := "()V" } : Jvm.MethodName)) ∈ fx_TB := fx_mem 122 (by decide +kernel) rfl
theorem tb_27 : (Jvm.Cond.instanceMethod ({ cls := "java/lang/Object", name := "<init>", desc := "()V" } : Jvm.MethodName)) ∈ fx_TB := fx_mem 123 (by decide +kernel) rfl
theorem tb_28 : (Jvm.Cond.code ({ cls := "java/lang/Object", name := "<init>", desc := "()V" } : Jvm.MethodName) object_method_1_code (1 : Nat) (Option.none : Option Jvm.ClassFile.FieldType)) ∈ fx_TB := fx_mem 124 (by decide +kernel) rfl
theorem tb_29 : (Jvm.Cond.classLink "FearLocks" (9 : Nat) "FearLocks$Tape") ∈ fx_TB := fx_mem 125 (by decide +kernel) rfl
theorem tb_30 : (Jvm.Cond.instantiable "FearLocks$Tape" (5 : Nat)) ∈ fx_TB := fx_mem 126 (by decide +kernel) rfl
theorem tb_31 : (Jvm.Cond.methodLinkNest "FearLocks" (11 : Nat) ({ cls := "FearLocks$Tape", name := "<init>", desc := "()V" } : Jvm.MethodName) "FearLocks") ∈ fx_TB := fx_mem 127 (by decide +kernel) rfl
theorem tb_32 : (Jvm.Cond.instanceMethod ({ cls := "FearLocks$Tape", name := "<init>", desc := "()V" } : Jvm.MethodName)) ∈ fx_TB := fx_mem 128 (by decide +kernel) rfl
theorem tb_33 : (Jvm.Cond.code ({ cls := "FearLocks$Tape", name := "<init>", desc := "()V" } : Jvm.MethodName) prog_12_method_1_code (1 : Nat) (Option.none : Option Jvm.ClassFile.FieldType)) ∈ fx_TB := fx_mem 129 (by decide +kernel) rfl
theorem tb_34 : (Jvm.Cond.methodLink "FearLocks$Tape" (3 : Nat) ({ cls := "java/lang/Object", name := "<init>", desc := "()V" } : Jvm.MethodName)) ∈ fx_TB := fx_mem 130 (by decide +kernel) rfl
theorem tb_35 : (Jvm.Cond.fieldLink "FearLocks$Tape" (9 : Nat) "FearLocks$Tape" "bytes" "[I") ∈ fx_TB := fx_mem 131 (by decide +kernel) rfl
theorem tb_36 : (Jvm.Cond.fieldLink "FearLocks$Tape" (15 : Nat) "FearLocks$Tape" "size" "I") ∈ fx_TB := fx_mem 132 (by decide +kernel) rfl
theorem tb_37 : (Jvm.Cond.fieldLinkNest "FearLocks" (71 : Nat) "FearLocks$Tape" "size" "I" "FearLocks") ∈ fx_TB := fx_mem 133 (by decide +kernel) rfl
theorem tb_38 : (Jvm.Cond.fieldLink "FearLocks$Tape" (19 : Nat) "FearLocks$Tape" "end" "I") ∈ fx_TB := fx_mem 134 (by decide +kernel) rfl
theorem tb_39 : (Jvm.Cond.fieldLinkNest "FearLocks$LawReader" (59 : Nat) "FearLocks$Tape" "end" "I" "FearLocks") ∈ fx_TB := fx_mem 135 (by decide +kernel) rfl
theorem tb_40 : (Jvm.Cond.fieldLinkNest "FearLocks$LinesReader" (21 : Nat) "FearLocks$Tape" "end" "I" "FearLocks") ∈ fx_TB := fx_mem 136 (by decide +kernel) rfl
theorem tb_41 : (Jvm.Cond.fieldLinkNest "FearLocks$DreadsReader" (57 : Nat) "FearLocks$Tape" "end" "I" "FearLocks") ∈ fx_TB := fx_mem 137 (by decide +kernel) rfl
theorem tb_42 : (Jvm.Cond.fieldLink "FearLocks$Tape" (22 : Nat) "FearLocks$Tape" "at" "I") ∈ fx_TB := fx_mem 138 (by decide +kernel) rfl
theorem tb_43 : (Jvm.Cond.fieldLinkNest "FearLocks$LawReader" (25 : Nat) "FearLocks$Tape" "at" "I" "FearLocks") ∈ fx_TB := fx_mem 139 (by decide +kernel) rfl
theorem tb_44 : (Jvm.Cond.fieldLinkNest "FearLocks$DreadsReader" (40 : Nat) "FearLocks$Tape" "at" "I" "FearLocks") ∈ fx_TB := fx_mem 140 (by decide +kernel) rfl
theorem tb_45 : (Jvm.Cond.fieldLinkNest "FearLocks$LinesReader" (15 : Nat) "FearLocks$Tape" "at" "I" "FearLocks") ∈ fx_TB := fx_mem 141 (by decide +kernel) rfl
theorem tb_46 : (Jvm.Cond.fieldLinkNest "FearLocks$OrdersReader" (42 : Nat) "FearLocks$Tape" "at" "I" "FearLocks") ∈ fx_TB := fx_mem 142 (by decide +kernel) rfl
theorem tb_47 : (Jvm.Cond.fieldLink "FearLocks$Tape" (25 : Nat) "FearLocks$Tape" "fault" "I") ∈ fx_TB := fx_mem 143 (by decide +kernel) rfl
theorem tb_48 : (Jvm.Cond.fieldLinkNest "FearLocks$LinesReader" (28 : Nat) "FearLocks$Tape" "fault" "I" "FearLocks") ∈ fx_TB := fx_mem 144 (by decide +kernel) rfl
theorem tb_49 : (Jvm.Cond.laysFinal "FearLocks$Tape" "FearLocks$Tape" "bytes" "[I") ∈ fx_TB := fx_mem 145 (by decide +kernel) rfl
theorem tb_50 : (Jvm.Cond.soleField "FearLocks$Tape" "bytes") ∈ fx_TB := fx_mem 146 (by decide +kernel) rfl
theorem tb_51 : (Jvm.Cond.lays "FearLocks$Tape" "FearLocks$Tape" "size" "I") ∈ fx_TB := fx_mem 147 (by decide +kernel) rfl
theorem tb_52 : (Jvm.Cond.soleField "FearLocks$Tape" "size") ∈ fx_TB := fx_mem 148 (by decide +kernel) rfl
theorem tb_53 : (Jvm.Cond.lays "FearLocks$Tape" "FearLocks$Tape" "end" "I") ∈ fx_TB := fx_mem 149 (by decide +kernel) rfl
theorem tb_54 : (Jvm.Cond.soleField "FearLocks$Tape" "end") ∈ fx_TB := fx_mem 150 (by decide +kernel) rfl
theorem tb_55 : (Jvm.Cond.lays "FearLocks$Tape" "FearLocks$Tape" "at" "I") ∈ fx_TB := fx_mem 151 (by decide +kernel) rfl
theorem tb_56 : (Jvm.Cond.soleField "FearLocks$Tape" "at") ∈ fx_TB := fx_mem 152 (by decide +kernel) rfl
theorem tb_57 : (Jvm.Cond.lays "FearLocks$Tape" "FearLocks$Tape" "fault" "I") ∈ fx_TB := fx_mem 153 (by decide +kernel) rfl
theorem tb_58 : (Jvm.Cond.soleField "FearLocks$Tape" "fault") ∈ fx_TB := fx_mem 154 (by decide +kernel) rfl
theorem tb_59 : (Jvm.Cond.superclass "FearLocks$Tape" "java/lang/Object") ∈ fx_TB := fx_mem 155 (by decide +kernel) rfl
theorem tb_60 : (Jvm.Cond.arrayClass Jvm.ClassFile.FieldType.int) ∈ fx_TB := fx_mem 156 (by decide +kernel) rfl
theorem tb_61 : (Jvm.Cond.classLink "FearLocks" (16 : Nat) "FearLocks$City") ∈ fx_TB := fx_mem 157 (by decide +kernel) rfl
theorem tb_62 : (Jvm.Cond.instantiable "FearLocks$City" (9 : Nat)) ∈ fx_TB := fx_mem 158 (by decide +kernel) rfl
theorem tb_63 : (Jvm.Cond.methodLinkNest "FearLocks" (18 : Nat) ({ cls := "FearLocks$City", name := "<init>", desc := "()V" } : Jvm.MethodName) "FearLocks") ∈ fx_TB := fx_mem 159 (by decide +kernel) rfl
theorem tb_64 : (Jvm.Cond.instanceMethod ({ cls := "FearLocks$City", name := "<init>", desc := "()V" } : Jvm.MethodName)) ∈ fx_TB := fx_mem 160 (by decide +kernel) rfl
theorem tb_65 : (Jvm.Cond.code ({ cls := "FearLocks$City", name := "<init>", desc := "()V" } : Jvm.MethodName) prog_2_method_1_code (1 : Nat) (Option.none : Option Jvm.ClassFile.FieldType)) ∈ fx_TB := fx_mem 161 (by decide +kernel) rfl
theorem tb_66 : (Jvm.Cond.methodLink "FearLocks$City" (3 : Nat) ({ cls := "java/lang/Object", name := "<init>", desc := "()V" } : Jvm.MethodName)) ∈ fx_TB := fx_mem 162 (by decide +kernel) rfl
theorem tb_67 : (Jvm.Cond.classLink "FearLocks$City" (9 : Nat) "[[I") ∈ fx_TB := fx_mem 163 (by decide +kernel) rfl
theorem tb_68 : (Jvm.Cond.arrayOver (Jvm.ClassFile.FieldType.array Jvm.ClassFile.FieldType.int)) ∈ fx_TB := fx_mem 164 (by decide +kernel) rfl
theorem tb_69 : (Jvm.Cond.fieldLink "FearLocks$City" (11 : Nat) "FearLocks$City" "dread" "[[I") ∈ fx_TB := fx_mem 165 (by decide +kernel) rfl
theorem tb_70 : (Jvm.Cond.fieldLink "FearLocks$City" (16 : Nat) "FearLocks$City" "knows" "[I") ∈ fx_TB := fx_mem 166 (by decide +kernel) rfl
theorem tb_71 : (Jvm.Cond.fieldLinkNest "FearLocks$Company" (36 : Nat) "FearLocks$City" "knows" "[I" "FearLocks") ∈ fx_TB := fx_mem 167 (by decide +kernel) rfl
theorem tb_72 : (Jvm.Cond.fieldLink "FearLocks$City" (20 : Nat) "FearLocks$City" "doorFear" "[I") ∈ fx_TB := fx_mem 168 (by decide +kernel) rfl
theorem tb_73 : (Jvm.Cond.fieldLinkNest "FearLocks$Keys" (21 : Nat) "FearLocks$City" "doorFear" "[I" "FearLocks") ∈ fx_TB := fx_mem 169 (by decide +kernel) rfl
theorem tb_74 : (Jvm.Cond.fieldLinkNest "FearLocks$Nightfall" (93 : Nat) "FearLocks$City" "doorFear" "[I" "FearLocks") ∈ fx_TB := fx_mem 170 (by decide +kernel) rfl
theorem tb_75 : (Jvm.Cond.fieldLinkNest "FearLocks" (156 : Nat) "FearLocks$City" "doorFear" "[I" "FearLocks") ∈ fx_TB := fx_mem 171 (by decide +kernel) rfl
theorem tb_76 : (Jvm.Cond.fieldLink "FearLocks$City" (23 : Nat) "FearLocks$City" "strength" "[I") ∈ fx_TB := fx_mem 172 (by decide +kernel) rfl
theorem tb_77 : (Jvm.Cond.fieldLinkNest "FearLocks$Keys" (24 : Nat) "FearLocks$City" "strength" "[I" "FearLocks") ∈ fx_TB := fx_mem 173 (by decide +kernel) rfl
theorem tb_78 : (Jvm.Cond.fieldLinkNest "FearLocks$Nightfall" (100 : Nat) "FearLocks$City" "strength" "[I" "FearLocks") ∈ fx_TB := fx_mem 174 (by decide +kernel) rfl
theorem tb_79 : (Jvm.Cond.fieldLinkNest "FearLocks" (160 : Nat) "FearLocks$City" "strength" "[I" "FearLocks") ∈ fx_TB := fx_mem 175 (by decide +kernel) rfl
theorem tb_80 : (Jvm.Cond.fieldLink "FearLocks$City" (26 : Nat) "FearLocks$City" "opened" "[I") ∈ fx_TB := fx_mem 176 (by decide +kernel) rfl
theorem tb_81 : (Jvm.Cond.fieldLinkNest "FearLocks$Nightfall" (103 : Nat) "FearLocks$City" "opened" "[I" "FearLocks") ∈ fx_TB := fx_mem 177 (by decide +kernel) rfl
theorem tb_82 : (Jvm.Cond.fieldLinkNest "FearLocks" (163 : Nat) "FearLocks$City" "opened" "[I" "FearLocks") ∈ fx_TB := fx_mem 178 (by decide +kernel) rfl
theorem tb_83 : (Jvm.Cond.fieldLink "FearLocks$City" (29 : Nat) "FearLocks$City" "people" "I") ∈ fx_TB := fx_mem 179 (by decide +kernel) rfl
theorem tb_84 : (Jvm.Cond.fieldLinkNest "FearLocks$DreadsReader" (47 : Nat) "FearLocks$City" "people" "I" "FearLocks") ∈ fx_TB := fx_mem 180 (by decide +kernel) rfl
theorem tb_85 : (Jvm.Cond.fieldLinkNest "FearLocks$Company" (26 : Nat) "FearLocks$City" "people" "I" "FearLocks") ∈ fx_TB := fx_mem 181 (by decide +kernel) rfl
theorem tb_86 : (Jvm.Cond.fieldLinkNest "FearLocks" (212 : Nat) "FearLocks$City" "people" "I" "FearLocks") ∈ fx_TB := fx_mem 182 (by decide +kernel) rfl
theorem tb_87 : (Jvm.Cond.fieldLink "FearLocks$City" (33 : Nat) "FearLocks$City" "doors" "I") ∈ fx_TB := fx_mem 183 (by decide +kernel) rfl
theorem tb_88 : (Jvm.Cond.fieldLinkNest "FearLocks$Keys" (54 : Nat) "FearLocks$City" "doors" "I" "FearLocks") ∈ fx_TB := fx_mem 184 (by decide +kernel) rfl
theorem tb_89 : (Jvm.Cond.fieldLinkNest "FearLocks" (274 : Nat) "FearLocks$City" "doors" "I" "FearLocks") ∈ fx_TB := fx_mem 185 (by decide +kernel) rfl
theorem tb_90 : (Jvm.Cond.fieldLink "FearLocks$City" (36 : Nat) "FearLocks$City" "night" "I") ∈ fx_TB := fx_mem 186 (by decide +kernel) rfl
theorem tb_91 : (Jvm.Cond.fieldLinkNest "FearLocks$Nightfall" (25 : Nat) "FearLocks$City" "night" "I" "FearLocks") ∈ fx_TB := fx_mem 187 (by decide +kernel) rfl
theorem tb_92 : (Jvm.Cond.fieldLinkNest "FearLocks" (268 : Nat) "FearLocks$City" "night" "I" "FearLocks") ∈ fx_TB := fx_mem 188 (by decide +kernel) rfl
theorem tb_93 : (Jvm.Cond.fieldLink "FearLocks$City" (39 : Nat) "FearLocks$City" "x" "I") ∈ fx_TB := fx_mem 189 (by decide +kernel) rfl
theorem tb_94 : (Jvm.Cond.fieldLinkNest "FearLocks" (265 : Nat) "FearLocks$City" "x" "I" "FearLocks") ∈ fx_TB := fx_mem 190 (by decide +kernel) rfl
theorem tb_95 : (Jvm.Cond.laysFinal "FearLocks$City" "FearLocks$City" "dread" "[[I") ∈ fx_TB := fx_mem 191 (by decide +kernel) rfl
theorem tb_96 : (Jvm.Cond.soleField "FearLocks$City" "dread") ∈ fx_TB := fx_mem 192 (by decide +kernel) rfl
theorem tb_97 : (Jvm.Cond.laysFinal "FearLocks$City" "FearLocks$City" "knows" "[I") ∈ fx_TB := fx_mem 193 (by decide +kernel) rfl
theorem tb_98 : (Jvm.Cond.soleField "FearLocks$City" "knows") ∈ fx_TB := fx_mem 194 (by decide +kernel) rfl
theorem tb_99 : (Jvm.Cond.laysFinal "FearLocks$City" "FearLocks$City" "doorFear" "[I") ∈ fx_TB := fx_mem 195 (by decide +kernel) rfl
theorem tb_100 : (Jvm.Cond.soleField "FearLocks$City" "doorFear") ∈ fx_TB := fx_mem 196 (by decide +kernel) rfl
theorem tb_101 : (Jvm.Cond.laysFinal "FearLocks$City" "FearLocks$City" "strength" "[I") ∈ fx_TB := fx_mem 197 (by decide +kernel) rfl
theorem tb_102 : (Jvm.Cond.soleField "FearLocks$City" "strength") ∈ fx_TB := fx_mem 198 (by decide +kernel) rfl
theorem tb_103 : (Jvm.Cond.laysFinal "FearLocks$City" "FearLocks$City" "opened" "[I") ∈ fx_TB := fx_mem 199 (by decide +kernel) rfl
theorem tb_104 : (Jvm.Cond.soleField "FearLocks$City" "opened") ∈ fx_TB := fx_mem 200 (by decide +kernel) rfl
theorem tb_105 : (Jvm.Cond.lays "FearLocks$City" "FearLocks$City" "people" "I") ∈ fx_TB := fx_mem 201 (by decide +kernel) rfl
theorem tb_106 : (Jvm.Cond.soleField "FearLocks$City" "people") ∈ fx_TB := fx_mem 202 (by decide +kernel) rfl
theorem tb_107 : (Jvm.Cond.lays "FearLocks$City" "FearLocks$City" "doors" "I") ∈ fx_TB := fx_mem 203 (by decide +kernel) rfl
theorem tb_108 : (Jvm.Cond.soleField "FearLocks$City" "doors") ∈ fx_TB := fx_mem 204 (by decide +kernel) rfl
theorem tb_109 : (Jvm.Cond.lays "FearLocks$City" "FearLocks$City" "night" "I") ∈ fx_TB := fx_mem 205 (by decide +kernel) rfl
theorem tb_110 : (Jvm.Cond.soleField "FearLocks$City" "night") ∈ fx_TB := fx_mem 206 (by decide +kernel) rfl
theorem tb_111 : (Jvm.Cond.lays "FearLocks$City" "FearLocks$City" "x" "I") ∈ fx_TB := fx_mem 207 (by decide +kernel) rfl
theorem tb_112 : (Jvm.Cond.soleField "FearLocks$City" "x") ∈ fx_TB := fx_mem 208 (by decide +kernel) rfl
theorem tb_113 : (Jvm.Cond.superclass "FearLocks$City" "java/lang/Object") ∈ fx_TB := fx_mem 209 (by decide +kernel) rfl
theorem tb_114 : (Jvm.Cond.classLink "FearLocks" (33 : Nat) "FearLocks$Law") ∈ fx_TB := fx_mem 210 (by decide +kernel) rfl
theorem tb_115 : (Jvm.Cond.instantiable "FearLocks$Law" (10 : Nat)) ∈ fx_TB := fx_mem 211 (by decide +kernel) rfl
theorem tb_116 : (Jvm.Cond.methodLinkNest "FearLocks" (35 : Nat) ({ cls := "FearLocks$Law", name := "<init>", desc := "()V" } : Jvm.MethodName) "FearLocks") ∈ fx_TB := fx_mem 212 (by decide +kernel) rfl
theorem tb_117 : (Jvm.Cond.instanceMethod ({ cls := "FearLocks$Law", name := "<init>", desc := "()V" } : Jvm.MethodName)) ∈ fx_TB := fx_mem 213 (by decide +kernel) rfl
theorem tb_118 : (Jvm.Cond.code ({ cls := "FearLocks$Law", name := "<init>", desc := "()V" } : Jvm.MethodName) prog_6_method_1_code (1 : Nat) (Option.none : Option Jvm.ClassFile.FieldType)) ∈ fx_TB := fx_mem 214 (by decide +kernel) rfl
theorem tb_119 : (Jvm.Cond.methodLink "FearLocks$Law" (3 : Nat) ({ cls := "java/lang/Object", name := "<init>", desc := "()V" } : Jvm.MethodName)) ∈ fx_TB := fx_mem 215 (by decide +kernel) rfl
theorem tb_120 : (Jvm.Cond.stringRef "FearLocks$Law" (34 : Nat) "kdfvgmnotw") ∈ fx_TB := fx_mem 216 (by decide +kernel) rfl
theorem tb_121 : (Jvm.Cond.methodLink "FearLocks$Law" (36 : Nat) ({ cls := "java/lang/String", name := "length", desc := "()I" } : Jvm.MethodName)) ∈ fx_TB := fx_mem 217 (by decide +kernel) rfl
theorem tb_122 : (Jvm.Cond.instanceMethod ({ cls := "java/lang/String", name := "length", desc := "()I" } : Jvm.MethodName)) ∈ fx_TB := fx_mem 218 (by decide +kernel) rfl
theorem tb_123 : (Jvm.Cond.selects "java/lang/String" ({ cls := "java/lang/String", name := "length", desc := "()I" } : Jvm.MethodName) ({ cls := "java/lang/String", name := "length", desc := "()I" } : Jvm.MethodName)) ∈ fx_TB := fx_mem 219 (by decide +kernel) rfl
theorem tb_124 : (Jvm.Cond.code ({ cls := "java/lang/String", name := "length", desc := "()I" } : Jvm.MethodName) prog_18_method_54_code (1 : Nat) (Option.some Jvm.ClassFile.FieldType.int)) ∈ fx_TB := fx_mem 220 (by decide +kernel) rfl
theorem tb_125 : (Jvm.Cond.methodLink "java/lang/String" (335 : Nat) ({ cls := "java/lang/String", name := "coder", desc := "()B" } : Jvm.MethodName)) ∈ fx_TB := fx_mem 221 (by decide +kernel) rfl
theorem tb_126 : (Jvm.Cond.instanceMethod ({ cls := "java/lang/String", name := "coder", desc := "()B" } : Jvm.MethodName)) ∈ fx_TB := fx_mem 222 (by decide +kernel) rfl
theorem tb_127 : (Jvm.Cond.selects "java/lang/String" ({ cls := "java/lang/String", name := "coder", desc := "()B" } : Jvm.MethodName) ({ cls := "java/lang/String", name := "coder", desc := "()B" } : Jvm.MethodName)) ∈ fx_TB := fx_mem 223 (by decide +kernel) rfl
theorem tb_128 : (Jvm.Cond.code ({ cls := "java/lang/String", name := "coder", desc := "()B" } : Jvm.MethodName) prog_18_method_152_code (1 : Nat) (Option.some Jvm.ClassFile.FieldType.byte)) ∈ fx_TB := fx_mem 224 (by decide +kernel) rfl
theorem tb_129 : (Jvm.Cond.fieldLink "java/lang/String" (38 : Nat) "java/lang/String" "COMPACT_STRINGS" "Z") ∈ fx_TB := fx_mem 225 (by decide +kernel) rfl
theorem tb_130 : (Jvm.Cond.laysStatic "java/lang/String" "COMPACT_STRINGS" "Z") ∈ fx_TB := fx_mem 226 (by decide +kernel) rfl
theorem tb_131 : (Jvm.Cond.fieldLink "FearLocks$Law" (11 : Nat) "FearLocks$Law" "step" "[I") ∈ fx_TB := fx_mem 227 (by decide +kernel) rfl
theorem tb_132 : (Jvm.Cond.fieldLink "FearLocks$Law" (15 : Nat) "FearLocks$Law" "detail" "[I") ∈ fx_TB := fx_mem 228 (by decide +kernel) rfl
theorem tb_133 : (Jvm.Cond.fieldLink "FearLocks$Law" (18 : Nat) "FearLocks$Law" "steps" "I") ∈ fx_TB := fx_mem 229 (by decide +kernel) rfl
theorem tb_134 : (Jvm.Cond.fieldLink "FearLocks$Law" (22 : Nat) "FearLocks$Law" "kind" "[I") ∈ fx_TB := fx_mem 230 (by decide +kernel) rfl
theorem tb_135 : (Jvm.Cond.fieldLink "FearLocks$Law" (25 : Nat) "FearLocks$Law" "worthFrom" "[I") ∈ fx_TB := fx_mem 231 (by decide +kernel) rfl
theorem tb_136 : (Jvm.Cond.fieldLink "FearLocks$Law" (28 : Nat) "FearLocks$Law" "conditionFrom" "[I") ∈ fx_TB := fx_mem 232 (by decide +kernel) rfl
theorem tb_137 : (Jvm.Cond.fieldLink "FearLocks$Law" (31 : Nat) "FearLocks$Law" "rules" "I") ∈ fx_TB := fx_mem 233 (by decide +kernel) rfl
theorem tb_138 : (Jvm.Cond.fieldLinkNest "FearLocks" (283 : Nat) "FearLocks$Law" "rules" "I" "FearLocks") ∈ fx_TB := fx_mem 234 (by decide +kernel) rfl
theorem tb_139 : (Jvm.Cond.fieldLink "FearLocks$Law" (42 : Nat) "FearLocks$Law" "meaning" "[I") ∈ fx_TB := fx_mem 235 (by decide +kernel) rfl
theorem tb_140 : (Jvm.Cond.fieldLink "FearLocks$Law" (45 : Nat) "FearLocks$Law" "stack" "[I") ∈ fx_TB := fx_mem 236 (by decide +kernel) rfl
theorem tb_141 : (Jvm.Cond.fieldLink "FearLocks$Law" (48 : Nat) "FearLocks$Law" "high" "I") ∈ fx_TB := fx_mem 237 (by decide +kernel) rfl
theorem tb_142 : (Jvm.Cond.laysFinal "FearLocks$Law" "FearLocks$Law" "step" "[I") ∈ fx_TB := fx_mem 238 (by decide +kernel) rfl
theorem tb_143 : (Jvm.Cond.soleField "FearLocks$Law" "step") ∈ fx_TB := fx_mem 239 (by decide +kernel) rfl
theorem tb_144 : (Jvm.Cond.laysFinal "FearLocks$Law" "FearLocks$Law" "detail" "[I") ∈ fx_TB := fx_mem 240 (by decide +kernel) rfl
theorem tb_145 : (Jvm.Cond.soleField "FearLocks$Law" "detail") ∈ fx_TB := fx_mem 241 (by decide +kernel) rfl
theorem tb_146 : (Jvm.Cond.lays "FearLocks$Law" "FearLocks$Law" "steps" "I") ∈ fx_TB := fx_mem 242 (by decide +kernel) rfl
theorem tb_147 : (Jvm.Cond.soleField "FearLocks$Law" "steps") ∈ fx_TB := fx_mem 243 (by decide +kernel) rfl
theorem tb_148 : (Jvm.Cond.laysFinal "FearLocks$Law" "FearLocks$Law" "kind" "[I") ∈ fx_TB := fx_mem 244 (by decide +kernel) rfl
theorem tb_149 : (Jvm.Cond.soleField "FearLocks$Law" "kind") ∈ fx_TB := fx_mem 245 (by decide +kernel) rfl
theorem tb_150 : (Jvm.Cond.laysFinal "FearLocks$Law" "FearLocks$Law" "worthFrom" "[I") ∈ fx_TB := fx_mem 246 (by decide +kernel) rfl
theorem tb_151 : (Jvm.Cond.soleField "FearLocks$Law" "worthFrom") ∈ fx_TB := fx_mem 247 (by decide +kernel) rfl
theorem tb_152 : (Jvm.Cond.laysFinal "FearLocks$Law" "FearLocks$Law" "conditionFrom" "[I") ∈ fx_TB := fx_mem 248 (by decide +kernel) rfl
theorem tb_153 : (Jvm.Cond.soleField "FearLocks$Law" "conditionFrom") ∈ fx_TB := fx_mem 249 (by decide +kernel) rfl
theorem tb_154 : (Jvm.Cond.lays "FearLocks$Law" "FearLocks$Law" "rules" "I") ∈ fx_TB := fx_mem 250 (by decide +kernel) rfl
theorem tb_155 : (Jvm.Cond.soleField "FearLocks$Law" "rules") ∈ fx_TB := fx_mem 251 (by decide +kernel) rfl
theorem tb_156 : (Jvm.Cond.laysFinal "FearLocks$Law" "FearLocks$Law" "meaning" "[I") ∈ fx_TB := fx_mem 252 (by decide +kernel) rfl
theorem tb_157 : (Jvm.Cond.soleField "FearLocks$Law" "meaning") ∈ fx_TB := fx_mem 253 (by decide +kernel) rfl
theorem tb_158 : (Jvm.Cond.laysFinal "FearLocks$Law" "FearLocks$Law" "stack" "[I") ∈ fx_TB := fx_mem 254 (by decide +kernel) rfl
theorem tb_159 : (Jvm.Cond.soleField "FearLocks$Law" "stack") ∈ fx_TB := fx_mem 255 (by decide +kernel) rfl
theorem tb_160 : (Jvm.Cond.lays "FearLocks$Law" "FearLocks$Law" "high" "I") ∈ fx_TB := fx_mem 256 (by decide +kernel) rfl
theorem tb_161 : (Jvm.Cond.soleField "FearLocks$Law" "high") ∈ fx_TB := fx_mem 257 (by decide +kernel) rfl
theorem tb_162 : (Jvm.Cond.superclass "FearLocks$Law" "java/lang/Object") ∈ fx_TB := fx_mem 258 (by decide +kernel) rfl
theorem tb_163 : (Jvm.Cond.arrayClass Jvm.ClassFile.FieldType.byte) ∈ fx_TB := fx_mem 259 (by decide +kernel) rfl
theorem tb_164 : (Jvm.Cond.classLink "FearLocks" (43 : Nat) "FearLocks$Nightfall") ∈ fx_TB := fx_mem 260 (by decide +kernel) rfl
theorem tb_165 : (Jvm.Cond.instantiable "FearLocks$Nightfall" (3 : Nat)) ∈ fx_TB := fx_mem 261 (by decide +kernel) rfl
theorem tb_166 : (Jvm.Cond.methodLinkNest "FearLocks" (45 : Nat) ({ cls := "FearLocks$Nightfall", name := "<init>", desc := "()V" } : Jvm.MethodName) "FearLocks") ∈ fx_TB := fx_mem 262 (by decide +kernel) rfl
theorem tb_167 : (Jvm.Cond.instanceMethod ({ cls := "FearLocks$Nightfall", name := "<init>", desc := "()V" } : Jvm.MethodName)) ∈ fx_TB := fx_mem 263 (by decide +kernel) rfl
theorem tb_168 : (Jvm.Cond.code ({ cls := "FearLocks$Nightfall", name := "<init>", desc := "()V" } : Jvm.MethodName) prog_9_method_1_code (1 : Nat) (Option.none : Option Jvm.ClassFile.FieldType)) ∈ fx_TB := fx_mem 264 (by decide +kernel) rfl
theorem tb_169 : (Jvm.Cond.methodLink "FearLocks$Nightfall" (3 : Nat) ({ cls := "java/lang/Object", name := "<init>", desc := "()V" } : Jvm.MethodName)) ∈ fx_TB := fx_mem 265 (by decide +kernel) rfl
theorem tb_170 : (Jvm.Cond.classLink "FearLocks$Nightfall" (9 : Nat) "FearLocks$City") ∈ fx_TB := fx_mem 266 (by decide +kernel) rfl
theorem tb_171 : (Jvm.Cond.methodLinkNest "FearLocks$Nightfall" (11 : Nat) ({ cls := "FearLocks$City", name := "<init>", desc := "()V" } : Jvm.MethodName) "FearLocks") ∈ fx_TB := fx_mem 267 (by decide +kernel) rfl
theorem tb_172 : (Jvm.Cond.fieldLink "FearLocks$Nightfall" (12 : Nat) "FearLocks$Nightfall" "behindDoors" "LFearLocks$City;") ∈ fx_TB := fx_mem 268 (by decide +kernel) rfl
theorem tb_173 : (Jvm.Cond.fieldLink "FearLocks$Nightfall" (18 : Nat) "FearLocks$Nightfall" "openings" "I") ∈ fx_TB := fx_mem 269 (by decide +kernel) rfl
theorem tb_174 : (Jvm.Cond.fieldLinkNest "FearLocks" (118 : Nat) "FearLocks$Nightfall" "openings" "I" "FearLocks") ∈ fx_TB := fx_mem 270 (by decide +kernel) rfl
theorem tb_175 : (Jvm.Cond.fieldLink "FearLocks$Nightfall" (22 : Nat) "FearLocks$Nightfall" "failures" "I") ∈ fx_TB := fx_mem 271 (by decide +kernel) rfl
theorem tb_176 : (Jvm.Cond.fieldLinkNest "FearLocks" (125 : Nat) "FearLocks$Nightfall" "failures" "I" "FearLocks") ∈ fx_TB := fx_mem 272 (by decide +kernel) rfl
theorem tb_177 : (Jvm.Cond.laysFinal "FearLocks$Nightfall" "FearLocks$Nightfall" "behindDoors" "LFearLocks$City;") ∈ fx_TB := fx_mem 273 (by decide +kernel) rfl
theorem tb_178 : (Jvm.Cond.soleField "FearLocks$Nightfall" "behindDoors") ∈ fx_TB := fx_mem 274 (by decide +kernel) rfl
theorem tb_179 : (Jvm.Cond.lays "FearLocks$Nightfall" "FearLocks$Nightfall" "openings" "I") ∈ fx_TB := fx_mem 275 (by decide +kernel) rfl
theorem tb_180 : (Jvm.Cond.soleField "FearLocks$Nightfall" "openings") ∈ fx_TB := fx_mem 276 (by decide +kernel) rfl
theorem tb_181 : (Jvm.Cond.lays "FearLocks$Nightfall" "FearLocks$Nightfall" "failures" "I") ∈ fx_TB := fx_mem 277 (by decide +kernel) rfl
theorem tb_182 : (Jvm.Cond.soleField "FearLocks$Nightfall" "failures") ∈ fx_TB := fx_mem 278 (by decide +kernel) rfl
theorem tb_183 : (Jvm.Cond.superclass "FearLocks$Nightfall" "java/lang/Object") ∈ fx_TB := fx_mem 279 (by decide +kernel) rfl
theorem tb_184 : (Jvm.Cond.classLink "FearLocks" (50 : Nat) "FearLocks$Keys") ∈ fx_TB := fx_mem 280 (by decide +kernel) rfl
theorem tb_185 : (Jvm.Cond.instantiable "FearLocks$Keys" (1 : Nat)) ∈ fx_TB := fx_mem 281 (by decide +kernel) rfl
theorem tb_186 : (Jvm.Cond.methodLinkNest "FearLocks" (52 : Nat) ({ cls := "FearLocks$Keys", name := "<init>", desc := "()V" } : Jvm.MethodName) "FearLocks") ∈ fx_TB := fx_mem 282 (by decide +kernel) rfl
theorem tb_187 : (Jvm.Cond.instanceMethod ({ cls := "FearLocks$Keys", name := "<init>", desc := "()V" } : Jvm.MethodName)) ∈ fx_TB := fx_mem 283 (by decide +kernel) rfl
theorem tb_188 : (Jvm.Cond.code ({ cls := "FearLocks$Keys", name := "<init>", desc := "()V" } : Jvm.MethodName) prog_5_method_1_code (1 : Nat) (Option.none : Option Jvm.ClassFile.FieldType)) ∈ fx_TB := fx_mem 284 (by decide +kernel) rfl
theorem tb_189 : (Jvm.Cond.methodLink "FearLocks$Keys" (3 : Nat) ({ cls := "java/lang/Object", name := "<init>", desc := "()V" } : Jvm.MethodName)) ∈ fx_TB := fx_mem 285 (by decide +kernel) rfl
theorem tb_190 : (Jvm.Cond.fieldLink "FearLocks$Keys" (9 : Nat) "FearLocks$Keys" "opens" "[I") ∈ fx_TB := fx_mem 286 (by decide +kernel) rfl
theorem tb_191 : (Jvm.Cond.laysFinal "FearLocks$Keys" "FearLocks$Keys" "opens" "[I") ∈ fx_TB := fx_mem 287 (by decide +kernel) rfl
theorem tb_192 : (Jvm.Cond.soleField "FearLocks$Keys" "opens") ∈ fx_TB := fx_mem 288 (by decide +kernel) rfl
theorem tb_193 : (Jvm.Cond.superclass "FearLocks$Keys" "java/lang/Object") ∈ fx_TB := fx_mem 289 (by decide +kernel) rfl
theorem tb_194 : (Jvm.Cond.classLink "FearLocks" (57 : Nat) "FearLocks$Company") ∈ fx_TB := fx_mem 290 (by decide +kernel) rfl
theorem tb_195 : (Jvm.Cond.instantiable "FearLocks$Company" (2 : Nat)) ∈ fx_TB := fx_mem 291 (by decide +kernel) rfl
theorem tb_196 : (Jvm.Cond.methodLinkNest "FearLocks" (59 : Nat) ({ cls := "FearLocks$Company", name := "<init>", desc := "()V" } : Jvm.MethodName) "FearLocks") ∈ fx_TB := fx_mem 292 (by decide +kernel) rfl
theorem tb_197 : (Jvm.Cond.instanceMethod ({ cls := "FearLocks$Company", name := "<init>", desc := "()V" } : Jvm.MethodName)) ∈ fx_TB := fx_mem 293 (by decide +kernel) rfl
theorem tb_198 : (Jvm.Cond.code ({ cls := "FearLocks$Company", name := "<init>", desc := "()V" } : Jvm.MethodName) prog_3_method_1_code (1 : Nat) (Option.none : Option Jvm.ClassFile.FieldType)) ∈ fx_TB := fx_mem 294 (by decide +kernel) rfl
theorem tb_199 : (Jvm.Cond.methodLink "FearLocks$Company" (3 : Nat) ({ cls := "java/lang/Object", name := "<init>", desc := "()V" } : Jvm.MethodName)) ∈ fx_TB := fx_mem 295 (by decide +kernel) rfl
theorem tb_200 : (Jvm.Cond.fieldLink "FearLocks$Company" (9 : Nat) "FearLocks$Company" "links" "[I") ∈ fx_TB := fx_mem 296 (by decide +kernel) rfl
theorem tb_201 : (Jvm.Cond.fieldLink "FearLocks$Company" (15 : Nat) "FearLocks$Company" "couplesIn" "[I") ∈ fx_TB := fx_mem 297 (by decide +kernel) rfl
theorem tb_202 : (Jvm.Cond.laysFinal "FearLocks$Company" "FearLocks$Company" "links" "[I") ∈ fx_TB := fx_mem 298 (by decide +kernel) rfl
theorem tb_203 : (Jvm.Cond.soleField "FearLocks$Company" "links") ∈ fx_TB := fx_mem 299 (by decide +kernel) rfl
theorem tb_204 : (Jvm.Cond.laysFinal "FearLocks$Company" "FearLocks$Company" "couplesIn" "[I") ∈ fx_TB := fx_mem 300 (by decide +kernel) rfl
theorem tb_205 : (Jvm.Cond.soleField "FearLocks$Company" "couplesIn") ∈ fx_TB := fx_mem 301 (by decide +kernel) rfl
theorem tb_206 : (Jvm.Cond.superclass "FearLocks$Company" "java/lang/Object") ∈ fx_TB := fx_mem 302 (by decide +kernel) rfl
theorem tb_207 : (Jvm.Cond.classLink "FearLocks" (64 : Nat) "FearLocks$Pastimes") ∈ fx_TB := fx_mem 303 (by decide +kernel) rfl
theorem tb_208 : (Jvm.Cond.instantiable "FearLocks$Pastimes" (2 : Nat)) ∈ fx_TB := fx_mem 304 (by decide +kernel) rfl
theorem tb_209 : (Jvm.Cond.methodLinkNest "FearLocks" (66 : Nat) ({ cls := "FearLocks$Pastimes", name := "<init>", desc := "()V" } : Jvm.MethodName) "FearLocks") ∈ fx_TB := fx_mem 305 (by decide +kernel) rfl
theorem tb_210 : (Jvm.Cond.instanceMethod ({ cls := "FearLocks$Pastimes", name := "<init>", desc := "()V" } : Jvm.MethodName)) ∈ fx_TB := fx_mem 306 (by decide +kernel) rfl
theorem tb_211 : (Jvm.Cond.code ({ cls := "FearLocks$Pastimes", name := "<init>", desc := "()V" } : Jvm.MethodName) prog_11_method_1_code (1 : Nat) (Option.none : Option Jvm.ClassFile.FieldType)) ∈ fx_TB := fx_mem 307 (by decide +kernel) rfl
theorem tb_212 : (Jvm.Cond.methodLink "FearLocks$Pastimes" (3 : Nat) ({ cls := "java/lang/Object", name := "<init>", desc := "()V" } : Jvm.MethodName)) ∈ fx_TB := fx_mem 308 (by decide +kernel) rfl
theorem tb_213 : (Jvm.Cond.fieldLink "FearLocks$Pastimes" (9 : Nat) "FearLocks$Pastimes" "guardFear" "[I") ∈ fx_TB := fx_mem 309 (by decide +kernel) rfl
theorem tb_214 : (Jvm.Cond.fieldLink "FearLocks$Pastimes" (15 : Nat) "FearLocks$Pastimes" "words" "[J") ∈ fx_TB := fx_mem 310 (by decide +kernel) rfl
theorem tb_215 : (Jvm.Cond.laysFinal "FearLocks$Pastimes" "FearLocks$Pastimes" "guardFear" "[I") ∈ fx_TB := fx_mem 311 (by decide +kernel) rfl
theorem tb_216 : (Jvm.Cond.soleField "FearLocks$Pastimes" "guardFear") ∈ fx_TB := fx_mem 312 (by decide +kernel) rfl
theorem tb_217 : (Jvm.Cond.laysFinal "FearLocks$Pastimes" "FearLocks$Pastimes" "words" "[J") ∈ fx_TB := fx_mem 313 (by decide +kernel) rfl
theorem tb_218 : (Jvm.Cond.soleField "FearLocks$Pastimes" "words") ∈ fx_TB := fx_mem 314 (by decide +kernel) rfl
theorem tb_219 : (Jvm.Cond.superclass "FearLocks$Pastimes" "java/lang/Object") ∈ fx_TB := fx_mem 315 (by decide +kernel) rfl
theorem tb_220 : (Jvm.Cond.arrayClass Jvm.ClassFile.FieldType.long) ∈ fx_TB := fx_mem 316 (by decide +kernel) rfl
theorem tb_221 : (Jvm.Cond.fieldLink "FearLocks" (12 : Nat) "FearLocks" "tape" "LFearLocks$Tape;") ∈ fx_TB := fx_mem 317 (by decide +kernel) rfl
theorem tb_222 : (Jvm.Cond.fieldLink "FearLocks" (19 : Nat) "FearLocks" "city" "LFearLocks$City;") ∈ fx_TB := fx_mem 318 (by decide +kernel) rfl
theorem tb_223 : (Jvm.Cond.fieldLink "FearLocks" (23 : Nat) "FearLocks" "draft" "LFearLocks$City;") ∈ fx_TB := fx_mem 319 (by decide +kernel) rfl
theorem tb_224 : (Jvm.Cond.fieldLink "FearLocks" (26 : Nat) "FearLocks" "kept" "LFearLocks$City;") ∈ fx_TB := fx_mem 320 (by decide +kernel) rfl
theorem tb_225 : (Jvm.Cond.fieldLink "FearLocks" (29 : Nat) "FearLocks" "everKept" "Z") ∈ fx_TB := fx_mem 321 (by decide +kernel) rfl
theorem tb_226 : (Jvm.Cond.fieldLink "FearLocks" (36 : Nat) "FearLocks" "inForce" "LFearLocks$Law;") ∈ fx_TB := fx_mem 322 (by decide +kernel) rfl
theorem tb_227 : (Jvm.Cond.fieldLink "FearLocks" (40 : Nat) "FearLocks" "spare" "LFearLocks$Law;") ∈ fx_TB := fx_mem 323 (by decide +kernel) rfl
theorem tb_228 : (Jvm.Cond.fieldLink "FearLocks" (46 : Nat) "FearLocks" "nightfall" "LFearLocks$Nightfall;") ∈ fx_TB := fx_mem 324 (by decide +kernel) rfl
theorem tb_229 : (Jvm.Cond.fieldLink "FearLocks" (53 : Nat) "FearLocks" "keys" "LFearLocks$Keys;") ∈ fx_TB := fx_mem 325 (by decide +kernel) rfl
theorem tb_230 : (Jvm.Cond.fieldLink "FearLocks" (60 : Nat) "FearLocks" "company" "LFearLocks$Company;") ∈ fx_TB := fx_mem 326 (by decide +kernel) rfl
theorem tb_231 : (Jvm.Cond.fieldLink "FearLocks" (67 : Nat) "FearLocks" "pastimes" "LFearLocks$Pastimes;") ∈ fx_TB := fx_mem 327 (by decide +kernel) rfl
theorem tb_232 : (Jvm.Cond.laysFinal "FearLocks" "FearLocks" "tape" "LFearLocks$Tape;") ∈ fx_TB := fx_mem 328 (by decide +kernel) rfl
theorem tb_233 : (Jvm.Cond.soleField "FearLocks" "tape") ∈ fx_TB := fx_mem 329 (by decide +kernel) rfl
theorem tb_234 : (Jvm.Cond.laysFinal "FearLocks" "FearLocks" "city" "LFearLocks$City;") ∈ fx_TB := fx_mem 330 (by decide +kernel) rfl
theorem tb_235 : (Jvm.Cond.soleField "FearLocks" "city") ∈ fx_TB := fx_mem 331 (by decide +kernel) rfl
theorem tb_236 : (Jvm.Cond.laysFinal "FearLocks" "FearLocks" "draft" "LFearLocks$City;") ∈ fx_TB := fx_mem 332 (by decide +kernel) rfl
theorem tb_237 : (Jvm.Cond.soleField "FearLocks" "draft") ∈ fx_TB := fx_mem 333 (by decide +kernel) rfl
theorem tb_238 : (Jvm.Cond.laysFinal "FearLocks" "FearLocks" "kept" "LFearLocks$City;") ∈ fx_TB := fx_mem 334 (by decide +kernel) rfl
theorem tb_239 : (Jvm.Cond.soleField "FearLocks" "kept") ∈ fx_TB := fx_mem 335 (by decide +kernel) rfl
theorem tb_240 : (Jvm.Cond.lays "FearLocks" "FearLocks" "everKept" "Z") ∈ fx_TB := fx_mem 336 (by decide +kernel) rfl
theorem tb_241 : (Jvm.Cond.soleField "FearLocks" "everKept") ∈ fx_TB := fx_mem 337 (by decide +kernel) rfl
theorem tb_242 : (Jvm.Cond.lays "FearLocks" "FearLocks" "inForce" "LFearLocks$Law;") ∈ fx_TB := fx_mem 338 (by decide +kernel) rfl
theorem tb_243 : (Jvm.Cond.soleField "FearLocks" "inForce") ∈ fx_TB := fx_mem 339 (by decide +kernel) rfl
theorem tb_244 : (Jvm.Cond.lays "FearLocks" "FearLocks" "spare" "LFearLocks$Law;") ∈ fx_TB := fx_mem 340 (by decide +kernel) rfl
theorem tb_245 : (Jvm.Cond.soleField "FearLocks" "spare") ∈ fx_TB := fx_mem 341 (by decide +kernel) rfl
theorem tb_246 : (Jvm.Cond.laysFinal "FearLocks" "FearLocks" "nightfall" "LFearLocks$Nightfall;") ∈ fx_TB := fx_mem 342 (by decide +kernel) rfl
theorem tb_247 : (Jvm.Cond.soleField "FearLocks" "nightfall") ∈ fx_TB := fx_mem 343 (by decide +kernel) rfl
theorem tb_248 : (Jvm.Cond.laysFinal "FearLocks" "FearLocks" "keys" "LFearLocks$Keys;") ∈ fx_TB := fx_mem 344 (by decide +kernel) rfl
theorem tb_249 : (Jvm.Cond.soleField "FearLocks" "keys") ∈ fx_TB := fx_mem 345 (by decide +kernel) rfl
theorem tb_250 : (Jvm.Cond.laysFinal "FearLocks" "FearLocks" "company" "LFearLocks$Company;") ∈ fx_TB := fx_mem 346 (by decide +kernel) rfl
theorem tb_251 : (Jvm.Cond.soleField "FearLocks" "company") ∈ fx_TB := fx_mem 347 (by decide +kernel) rfl
theorem tb_252 : (Jvm.Cond.laysFinal "FearLocks" "FearLocks" "pastimes" "LFearLocks$Pastimes;") ∈ fx_TB := fx_mem 348 (by decide +kernel) rfl
theorem tb_253 : (Jvm.Cond.soleField "FearLocks" "pastimes") ∈ fx_TB := fx_mem 349 (by decide +kernel) rfl
theorem tb_254 : (Jvm.Cond.superclass "FearLocks" "java/lang/Object") ∈ fx_TB := fx_mem 350 (by decide +kernel) rfl
theorem tb_255 : (Jvm.Cond.methodLink "FearLocksLaw" (13 : Nat) ({ cls := "FearLocks", name := "feed", desc := "(IIIII)I" } : Jvm.MethodName)) ∈ fx_TB := fx_mem 351 (by decide +kernel) rfl
theorem tb_256 : (Jvm.Cond.instanceMethod ({ cls := "FearLocks", name := "feed", desc := "(IIIII)I" } : Jvm.MethodName)) ∈ fx_TB := fx_mem 352 (by decide +kernel) rfl
theorem tb_257 : (Jvm.Cond.selects "FearLocks" ({ cls := "FearLocks", name := "feed", desc := "(IIIII)I" } : Jvm.MethodName) ({ cls := "FearLocks", name := "feed", desc := "(IIIII)I" } : Jvm.MethodName)) ∈ fx_TB := fx_mem 353 (by decide +kernel) rfl
theorem tb_258 : (Jvm.Cond.code ({ cls := "FearLocks", name := "feed", desc := "(IIIII)I" } : Jvm.MethodName) prog_1_method_2_code (6 : Nat) (Option.some Jvm.ClassFile.FieldType.int)) ∈ fx_TB := fx_mem 354 (by decide +kernel) rfl
theorem tb_259 : (Jvm.Cond.methodLink "FearLocks" (75 : Nat) ({ cls := "FearLocks$Tape", name := "append", desc := "(I)V" } : Jvm.MethodName)) ∈ fx_TB := fx_mem 355 (by decide +kernel) rfl
theorem tb_260 : (Jvm.Cond.instanceMethod ({ cls := "FearLocks$Tape", name := "append", desc := "(I)V" } : Jvm.MethodName)) ∈ fx_TB := fx_mem 356 (by decide +kernel) rfl
theorem tb_261 : (Jvm.Cond.selects "FearLocks$Tape" ({ cls := "FearLocks$Tape", name := "append", desc := "(I)V" } : Jvm.MethodName) ({ cls := "FearLocks$Tape", name := "append", desc := "(I)V" } : Jvm.MethodName)) ∈ fx_TB := fx_mem 357 (by decide +kernel) rfl
theorem tb_262 : (Jvm.Cond.code ({ cls := "FearLocks$Tape", name := "append", desc := "(I)V" } : Jvm.MethodName) prog_12_method_2_code (3 : Nat) (Option.none : Option Jvm.ClassFile.FieldType)) ∈ fx_TB := fx_mem 358 (by decide +kernel) rfl
theorem tb_263 : (Jvm.Cond.methodLink "FearLocksLaw" (18 : Nat) ({ cls := "FearLocks", name := "law", desc := "(I)I" } : Jvm.MethodName)) ∈ fx_TB := fx_mem 359 (by decide +kernel) rfl
theorem tb_264 : (Jvm.Cond.instanceMethod ({ cls := "FearLocks", name := "law", desc := "(I)I" } : Jvm.MethodName)) ∈ fx_TB := fx_mem 360 (by decide +kernel) rfl
theorem tb_265 : (Jvm.Cond.selects "FearLocks" ({ cls := "FearLocks", name := "law", desc := "(I)I" } : Jvm.MethodName) ({ cls := "FearLocks", name := "law", desc := "(I)I" } : Jvm.MethodName)) ∈ fx_TB := fx_mem 361 (by decide +kernel) rfl
theorem tb_266 : (Jvm.Cond.code ({ cls := "FearLocks", name := "law", desc := "(I)I" } : Jvm.MethodName) prog_1_method_3_code (4 : Nat) (Option.some Jvm.ClassFile.FieldType.int)) ∈ fx_TB := fx_mem 362 (by decide +kernel) rfl
theorem tb_267 : (Jvm.Cond.methodLink "FearLocks" (79 : Nat) ({ cls := "FearLocks$Tape", name := "holds", desc := "(III)Z" } : Jvm.MethodName)) ∈ fx_TB := fx_mem 363 (by decide +kernel) rfl
theorem tb_268 : (Jvm.Cond.instanceMethod ({ cls := "FearLocks$Tape", name := "holds", desc := "(III)Z" } : Jvm.MethodName)) ∈ fx_TB := fx_mem 364 (by decide +kernel) rfl
theorem tb_269 : (Jvm.Cond.selects "FearLocks$Tape" ({ cls := "FearLocks$Tape", name := "holds", desc := "(III)Z" } : Jvm.MethodName) ({ cls := "FearLocks$Tape", name := "holds", desc := "(III)Z" } : Jvm.MethodName)) ∈ fx_TB := fx_mem 365 (by decide +kernel) rfl
theorem tb_270 : (Jvm.Cond.code ({ cls := "FearLocks$Tape", name := "holds", desc := "(III)Z" } : Jvm.MethodName) prog_12_method_3_code (4 : Nat) (Option.some Jvm.ClassFile.FieldType.boolean)) ∈ fx_TB := fx_mem 366 (by decide +kernel) rfl
theorem tb_271 : (Jvm.Cond.methodLink "FearLocks" (83 : Nat) ({ cls := "FearLocks$Tape", name := "take", desc := "(I)V" } : Jvm.MethodName)) ∈ fx_TB := fx_mem 367 (by decide +kernel) rfl
theorem tb_272 : (Jvm.Cond.instanceMethod ({ cls := "FearLocks$Tape", name := "take", desc := "(I)V" } : Jvm.MethodName)) ∈ fx_TB := fx_mem 368 (by decide +kernel) rfl
theorem tb_273 : (Jvm.Cond.selects "FearLocks$Tape" ({ cls := "FearLocks$Tape", name := "take", desc := "(I)V" } : Jvm.MethodName) ({ cls := "FearLocks$Tape", name := "take", desc := "(I)V" } : Jvm.MethodName)) ∈ fx_TB := fx_mem 369 (by decide +kernel) rfl
theorem tb_274 : (Jvm.Cond.code ({ cls := "FearLocks$Tape", name := "take", desc := "(I)V" } : Jvm.MethodName) prog_12_method_4_code (2 : Nat) (Option.none : Option Jvm.ClassFile.FieldType)) ∈ fx_TB := fx_mem 370 (by decide +kernel) rfl
theorem tb_275 : (Jvm.Cond.methodLink "FearLocks" (86 : Nat) ({ cls := "FearLocks$Law", name := "clear", desc := "()V" } : Jvm.MethodName)) ∈ fx_TB := fx_mem 371 (by decide +kernel) rfl
theorem tb_276 : (Jvm.Cond.instanceMethod ({ cls := "FearLocks$Law", name := "clear", desc := "()V" } : Jvm.MethodName)) ∈ fx_TB := fx_mem 372 (by decide +kernel) rfl
theorem tb_277 : (Jvm.Cond.selects "FearLocks$Law" ({ cls := "FearLocks$Law", name := "clear", desc := "()V" } : Jvm.MethodName) ({ cls := "FearLocks$Law", name := "clear", desc := "()V" } : Jvm.MethodName)) ∈ fx_TB := fx_mem 373 (by decide +kernel) rfl
theorem tb_278 : (Jvm.Cond.code ({ cls := "FearLocks$Law", name := "clear", desc := "()V" } : Jvm.MethodName) prog_6_method_2_code (1 : Nat) (Option.none : Option Jvm.ClassFile.FieldType)) ∈ fx_TB := fx_mem 374 (by decide +kernel) rfl
theorem tb_279 : (Jvm.Cond.classLink "FearLocks" (89 : Nat) "FearLocks$LawReader") ∈ fx_TB := fx_mem 375 (by decide +kernel) rfl
theorem tb_280 : (Jvm.Cond.instantiable "FearLocks$LawReader" (2 : Nat)) ∈ fx_TB := fx_mem 376 (by decide +kernel) rfl
theorem tb_281 : (Jvm.Cond.methodLink "FearLocks" (91 : Nat) ({ cls := "FearLocks$LawReader", name := "<init>", desc := "(LFearLocks$Tape;LFearLocks$Law;)V" } : Jvm.MethodName)) ∈ fx_TB := fx_mem 377 (by decide +kernel) rfl
theorem tb_282 : (Jvm.Cond.instanceMethod ({ cls := "FearLocks$LawReader", name := "<init>", desc := "(LFearLocks$Tape;LFearLocks$Law;)V" } : Jvm.MethodName)) ∈ fx_TB := fx_mem 378 (by decide +kernel) rfl
theorem tb_283 : (Jvm.Cond.code ({ cls := "FearLocks$LawReader", name := "<init>", desc := "(LFearLocks$Tape;LFearLocks$Law;)V" } : Jvm.MethodName) prog_7_method_1_code (3 : Nat) (Option.none : Option Jvm.ClassFile.FieldType)) ∈ fx_TB := fx_mem 379 (by decide +kernel) rfl
theorem tb_284 : (Jvm.Cond.methodLink "FearLocks$LawReader" (3 : Nat) ({ cls := "FearLocks$LinesReader", name := "<init>", desc := "(LFearLocks$Tape;)V" } : Jvm.MethodName)) ∈ fx_TB := fx_mem 380 (by decide +kernel) rfl
theorem tb_285 : (Jvm.Cond.instanceMethod ({ cls := "FearLocks$LinesReader", name := "<init>", desc := "(LFearLocks$Tape;)V" } : Jvm.MethodName)) ∈ fx_TB := fx_mem 381 (by decide +kernel) rfl
theorem tb_286 : (Jvm.Cond.code ({ cls := "FearLocks$LinesReader", name := "<init>", desc := "(LFearLocks$Tape;)V" } : Jvm.MethodName) prog_8_method_1_code (2 : Nat) (Option.none : Option Jvm.ClassFile.FieldType)) ∈ fx_TB := fx_mem 382 (by decide +kernel) rfl
theorem tb_287 : (Jvm.Cond.methodLink "FearLocks$LinesReader" (3 : Nat) ({ cls := "java/lang/Object", name := "<init>", desc := "()V" } : Jvm.MethodName)) ∈ fx_TB := fx_mem 383 (by decide +kernel) rfl
theorem tb_288 : (Jvm.Cond.fieldLink "FearLocks$LawReader" (9 : Nat) "FearLocks$LawReader" "law" "LFearLocks$Law;") ∈ fx_TB := fx_mem 384 (by decide +kernel) rfl
theorem tb_289 : (Jvm.Cond.fieldLink "FearLocks$LinesReader" (9 : Nat) "FearLocks$LinesReader" "text" "LFearLocks$Tape;") ∈ fx_TB := fx_mem 385 (by decide +kernel) rfl
theorem tb_290 : (Jvm.Cond.fieldLink "FearLocks$LawReader" (15 : Nat) "FearLocks$LawReader" "text" "LFearLocks$Tape;") ∈ fx_TB := fx_mem 386 (by decide +kernel) rfl
theorem tb_291 : (Jvm.Cond.sameField "FearLocks$LawReader" "FearLocks$LinesReader" "text" "LFearLocks$Tape;") ∈ fx_TB := fx_mem 387 (by decide +kernel) rfl
theorem tb_292 : (Jvm.Cond.fieldLink "FearLocks$OrdersReader" (21 : Nat) "FearLocks$OrdersReader" "text" "LFearLocks$Tape;") ∈ fx_TB := fx_mem 388 (by decide +kernel) rfl
theorem tb_293 : (Jvm.Cond.sameField "FearLocks$OrdersReader" "FearLocks$LinesReader" "text" "LFearLocks$Tape;") ∈ fx_TB := fx_mem 389 (by decide +kernel) rfl
theorem tb_294 : (Jvm.Cond.fieldLink "FearLocks$DreadsReader" (29 : Nat) "FearLocks$DreadsReader" "text" "LFearLocks$Tape;") ∈ fx_TB := fx_mem 390 (by decide +kernel) rfl
theorem tb_295 : (Jvm.Cond.sameField "FearLocks$DreadsReader" "FearLocks$LinesReader" "text" "LFearLocks$Tape;") ∈ fx_TB := fx_mem 391 (by decide +kernel) rfl
theorem tb_296 : (Jvm.Cond.laysFinal "FearLocks$LawReader" "FearLocks$LawReader" "law" "LFearLocks$Law;") ∈ fx_TB := fx_mem 392 (by decide +kernel) rfl
theorem tb_297 : (Jvm.Cond.soleField "FearLocks$LawReader" "law") ∈ fx_TB := fx_mem 393 (by decide +kernel) rfl
theorem tb_298 : (Jvm.Cond.laysFinal "FearLocks$LawReader" "FearLocks$LinesReader" "text" "LFearLocks$Tape;") ∈ fx_TB := fx_mem 394 (by decide +kernel) rfl
theorem tb_299 : (Jvm.Cond.soleField "FearLocks$LinesReader" "text") ∈ fx_TB := fx_mem 395 (by decide +kernel) rfl
theorem tb_300 : (Jvm.Cond.superclass "FearLocks$LawReader" "FearLocks$LinesReader") ∈ fx_TB := fx_mem 396 (by decide +kernel) rfl
theorem tb_301 : (Jvm.Cond.methodLink "FearLocks" (94 : Nat) ({ cls := "FearLocks$LawReader", name := "readLines", desc := "(I)I" } : Jvm.MethodName)) ∈ fx_TB := fx_mem 397 (by decide +kernel) rfl
theorem tb_302 : (Jvm.Cond.sameMethod "FearLocks$LawReader" "FearLocks$LinesReader" "readLines" "(I)I") ∈ fx_TB := fx_mem 398 (by decide +kernel) rfl
theorem tb_303 : (Jvm.Cond.declares ({ cls := "FearLocks$LinesReader", name := "readLines", desc := "(I)I" } : Jvm.MethodName)) ∈ fx_TB := fx_mem 399 (by decide +kernel) rfl
theorem tb_304 : (Jvm.Cond.selects "FearLocks$LawReader" ({ cls := "FearLocks$LawReader", name := "readLines", desc := "(I)I" } : Jvm.MethodName) ({ cls := "FearLocks$LinesReader", name := "readLines", desc := "(I)I" } : Jvm.MethodName)) ∈ fx_TB := fx_mem 400 (by decide +kernel) rfl
theorem tb_305 : (Jvm.Cond.instanceMethod ({ cls := "FearLocks$LinesReader", name := "readLines", desc := "(I)I" } : Jvm.MethodName)) ∈ fx_TB := fx_mem 401 (by decide +kernel) rfl
theorem tb_306 : (Jvm.Cond.code ({ cls := "FearLocks$LinesReader", name := "readLines", desc := "(I)I" } : Jvm.MethodName) prog_8_method_4_code (3 : Nat) (Option.some Jvm.ClassFile.FieldType.int)) ∈ fx_TB := fx_mem 402 (by decide +kernel) rfl
theorem tb_307 : (Jvm.Cond.methodLink "FearLocks$LinesReader" (24 : Nat) ({ cls := "FearLocks$Tape", name := "expect", desc := "(I)Z" } : Jvm.MethodName)) ∈ fx_TB := fx_mem 403 (by decide +kernel) rfl
theorem tb_308 : (Jvm.Cond.instanceMethod ({ cls := "FearLocks$Tape", name := "expect", desc := "(I)Z" } : Jvm.MethodName)) ∈ fx_TB := fx_mem 404 (by decide +kernel) rfl
theorem tb_309 : (Jvm.Cond.selects "FearLocks$Tape" ({ cls := "FearLocks$Tape", name := "expect", desc := "(I)Z" } : Jvm.MethodName) ({ cls := "FearLocks$Tape", name := "expect", desc := "(I)Z" } : Jvm.MethodName)) ∈ fx_TB := fx_mem 405 (by decide +kernel) rfl
theorem tb_310 : (Jvm.Cond.code ({ cls := "FearLocks$Tape", name := "expect", desc := "(I)Z" } : Jvm.MethodName) prog_12_method_9_code (2 : Nat) (Option.some Jvm.ClassFile.FieldType.boolean)) ∈ fx_TB := fx_mem 406 (by decide +kernel) rfl
theorem tb_311 : (Jvm.Cond.methodLink "FearLocks$Tape" (32 : Nat) ({ cls := "FearLocks$Tape", name := "now", desc := "()I" } : Jvm.MethodName)) ∈ fx_TB := fx_mem 407 (by decide +kernel) rfl
theorem tb_312 : (Jvm.Cond.instanceMethod ({ cls := "FearLocks$Tape", name := "now", desc := "()I" } : Jvm.MethodName)) ∈ fx_TB := fx_mem 408 (by decide +kernel) rfl
theorem tb_313 : (Jvm.Cond.selects "FearLocks$Tape" ({ cls := "FearLocks$Tape", name := "now", desc := "()I" } : Jvm.MethodName) ({ cls := "FearLocks$Tape", name := "now", desc := "()I" } : Jvm.MethodName)) ∈ fx_TB := fx_mem 409 (by decide +kernel) rfl
theorem tb_314 : (Jvm.Cond.code ({ cls := "FearLocks$Tape", name := "now", desc := "()I" } : Jvm.MethodName) prog_12_method_6_code (1 : Nat) (Option.some Jvm.ClassFile.FieldType.int)) ∈ fx_TB := fx_mem 410 (by decide +kernel) rfl
theorem tb_315 : (Jvm.Cond.methodLink "FearLocks$Tape" (28 : Nat) ({ cls := "FearLocks$Tape", name := "fail", desc := "(II)Z" } : Jvm.MethodName)) ∈ fx_TB := fx_mem 411 (by decide +kernel) rfl
theorem tb_316 : (Jvm.Cond.instanceMethod ({ cls := "FearLocks$Tape", name := "fail", desc := "(II)Z" } : Jvm.MethodName)) ∈ fx_TB := fx_mem 412 (by decide +kernel) rfl
theorem tb_317 : (Jvm.Cond.selects "FearLocks$Tape" ({ cls := "FearLocks$Tape", name := "fail", desc := "(II)Z" } : Jvm.MethodName) ({ cls := "FearLocks$Tape", name := "fail", desc := "(II)Z" } : Jvm.MethodName)) ∈ fx_TB := fx_mem 413 (by decide +kernel) rfl
theorem tb_318 : (Jvm.Cond.code ({ cls := "FearLocks$Tape", name := "fail", desc := "(II)Z" } : Jvm.MethodName) prog_12_method_7_code (3 : Nat) (Option.some Jvm.ClassFile.FieldType.boolean)) ∈ fx_TB := fx_mem 414 (by decide +kernel) rfl
theorem tb_319 : (Jvm.Cond.methodLink "FearLocks$LinesReader" (31 : Nat) ({ cls := "FearLocks$Tape", name := "now", desc := "()I" } : Jvm.MethodName)) ∈ fx_TB := fx_mem 415 (by decide +kernel) rfl
theorem tb_320 : (Jvm.Cond.methodLink "FearLocks$LinesReader" (35 : Nat) ({ cls := "FearLocks$LinesReader", name := "startsLine", desc := "(I)Z" } : Jvm.MethodName)) ∈ fx_TB := fx_mem 416 (by decide +kernel) rfl
theorem tb_321 : (Jvm.Cond.declares ({ cls := "FearLocks$LinesReader", name := "startsLine", desc := "(I)Z" } : Jvm.MethodName)) ∈ fx_TB := fx_mem 417 (by decide +kernel) rfl
theorem tb_322 : (Jvm.Cond.sameMethod "FearLocks$LinesReader" "FearLocks$LinesReader" "startsLine" "(I)Z") ∈ fx_TB := fx_mem 418 (by decide +kernel) rfl
theorem tb_323 : (Jvm.Cond.selects "FearLocks$DreadsReader" ({ cls := "FearLocks$LinesReader", name := "startsLine", desc := "(I)Z" } : Jvm.MethodName) ({ cls := "FearLocks$DreadsReader", name := "startsLine", desc := "(I)Z" } : Jvm.MethodName)) ∈ fx_TB := fx_mem 419 (by decide +kernel) rfl
theorem tb_324 : (Jvm.Cond.instanceMethod ({ cls := "FearLocks$DreadsReader", name := "startsLine", desc := "(I)Z" } : Jvm.MethodName)) ∈ fx_TB := fx_mem 420 (by decide +kernel) rfl
theorem tb_325 : (Jvm.Cond.code ({ cls := "FearLocks$DreadsReader", name := "startsLine", desc := "(I)Z" } : Jvm.MethodName) prog_4_method_2_code (2 : Nat) (Option.some Jvm.ClassFile.FieldType.boolean)) ∈ fx_TB := fx_mem 421 (by decide +kernel) rfl
theorem tb_326 : (Jvm.Cond.methodLink "FearLocks$DreadsReader" (19 : Nat) ({ cls := "FearLocks$Tape", name := "isFear", desc := "(I)Z" } : Jvm.MethodName)) ∈ fx_TB := fx_mem 422 (by decide +kernel) rfl
theorem tb_327 : (Jvm.Cond.static ({ cls := "FearLocks$Tape", name := "isFear", desc := "(I)Z" } : Jvm.MethodName)) ∈ fx_TB := fx_mem 423 (by decide +kernel) rfl
theorem tb_328 : (Jvm.Cond.code ({ cls := "FearLocks$Tape", name := "isFear", desc := "(I)Z" } : Jvm.MethodName) prog_12_method_12_code (1 : Nat) (Option.some Jvm.ClassFile.FieldType.boolean)) ∈ fx_TB := fx_mem 424 (by decide +kernel) rfl
theorem tb_329 : (Jvm.Cond.selects "FearLocks$LawReader" ({ cls := "FearLocks$LinesReader", name := "startsLine", desc := "(I)Z" } : Jvm.MethodName) ({ cls := "FearLocks$LawReader", name := "startsLine", desc := "(I)Z" } : Jvm.MethodName)) ∈ fx_TB := fx_mem 425 (by decide +kernel) rfl
theorem tb_330 : (Jvm.Cond.instanceMethod ({ cls := "FearLocks$LawReader", name := "startsLine", desc := "(I)Z" } : Jvm.MethodName)) ∈ fx_TB := fx_mem 426 (by decide +kernel) rfl
theorem tb_331 : (Jvm.Cond.code ({ cls := "FearLocks$LawReader", name := "startsLine", desc := "(I)Z" } : Jvm.MethodName) prog_7_method_2_code (2 : Nat) (Option.some Jvm.ClassFile.FieldType.boolean)) ∈ fx_TB := fx_mem 427 (by decide +kernel) rfl
theorem tb_332 : (Jvm.Cond.selects "FearLocks$OrdersReader" ({ cls := "FearLocks$LinesReader", name := "startsLine", desc := "(I)Z" } : Jvm.MethodName) ({ cls := "FearLocks$OrdersReader", name := "startsLine", desc := "(I)Z" } : Jvm.MethodName)) ∈ fx_TB := fx_mem 428 (by decide +kernel) rfl
theorem tb_333 : (Jvm.Cond.instanceMethod ({ cls := "FearLocks$OrdersReader", name := "startsLine", desc := "(I)Z" } : Jvm.MethodName)) ∈ fx_TB := fx_mem 429 (by decide +kernel) rfl
theorem tb_334 : (Jvm.Cond.code ({ cls := "FearLocks$OrdersReader", name := "startsLine", desc := "(I)Z" } : Jvm.MethodName) prog_10_method_2_code (2 : Nat) (Option.some Jvm.ClassFile.FieldType.boolean)) ∈ fx_TB := fx_mem 430 (by decide +kernel) rfl
theorem tb_335 : (Jvm.Cond.methodLink "FearLocks$OrdersReader" (15 : Nat) ({ cls := "FearLocks$Tape", name := "isDigit", desc := "(I)Z" } : Jvm.MethodName)) ∈ fx_TB := fx_mem 431 (by decide +kernel) rfl
theorem tb_336 : (Jvm.Cond.static ({ cls := "FearLocks$Tape", name := "isDigit", desc := "(I)Z" } : Jvm.MethodName)) ∈ fx_TB := fx_mem 432 (by decide +kernel) rfl
theorem tb_337 : (Jvm.Cond.code ({ cls := "FearLocks$Tape", name := "isDigit", desc := "(I)Z" } : Jvm.MethodName) prog_12_method_11_code (1 : Nat) (Option.some Jvm.ClassFile.FieldType.boolean)) ∈ fx_TB := fx_mem 433 (by decide +kernel) rfl
theorem tb_338 : (Jvm.Cond.methodLink "FearLocks$LinesReader" (38 : Nat) ({ cls := "FearLocks$Tape", name := "cannotStand", desc := "()Z" } : Jvm.MethodName)) ∈ fx_TB := fx_mem 434 (by decide +kernel) rfl
theorem tb_339 : (Jvm.Cond.instanceMethod ({ cls := "FearLocks$Tape", name := "cannotStand", desc := "()Z" } : Jvm.MethodName)) ∈ fx_TB := fx_mem 435 (by decide +kernel) rfl
theorem tb_340 : (Jvm.Cond.selects "FearLocks$Tape" ({ cls := "FearLocks$Tape", name := "cannotStand", desc := "()Z" } : Jvm.MethodName) ({ cls := "FearLocks$Tape", name := "cannotStand", desc := "()Z" } : Jvm.MethodName)) ∈ fx_TB := fx_mem 436 (by decide +kernel) rfl
theorem tb_341 : (Jvm.Cond.code ({ cls := "FearLocks$Tape", name := "cannotStand", desc := "()Z" } : Jvm.MethodName) prog_12_method_8_code (1 : Nat) (Option.some Jvm.ClassFile.FieldType.boolean)) ∈ fx_TB := fx_mem 437 (by decide +kernel) rfl
theorem tb_342 : (Jvm.Cond.methodLink "FearLocks$LinesReader" (42 : Nat) ({ cls := "FearLocks$Tape", name := "fail", desc := "(II)Z" } : Jvm.MethodName)) ∈ fx_TB := fx_mem 438 (by decide +kernel) rfl
theorem tb_343 : (Jvm.Cond.methodLink "FearLocks$LinesReader" (46 : Nat) ({ cls := "FearLocks$LinesReader", name := "readLine", desc := "()Z" } : Jvm.MethodName)) ∈ fx_TB := fx_mem 439 (by decide +kernel) rfl
theorem tb_344 : (Jvm.Cond.declares ({ cls := "FearLocks$LinesReader", name := "readLine", desc := "()Z" } : Jvm.MethodName)) ∈ fx_TB := fx_mem 440 (by decide +kernel) rfl
theorem tb_345 : (Jvm.Cond.sameMethod "FearLocks$LinesReader" "FearLocks$LinesReader" "readLine" "()Z") ∈ fx_TB := fx_mem 441 (by decide +kernel) rfl
theorem tb_346 : (Jvm.Cond.selects "FearLocks$DreadsReader" ({ cls := "FearLocks$LinesReader", name := "readLine", desc := "()Z" } : Jvm.MethodName) ({ cls := "FearLocks$DreadsReader", name := "readLine", desc := "()Z" } : Jvm.MethodName)) ∈ fx_TB := fx_mem 442 (by decide +kernel) rfl
theorem tb_347 : (Jvm.Cond.instanceMethod ({ cls := "FearLocks$DreadsReader", name := "readLine", desc := "()Z" } : Jvm.MethodName)) ∈ fx_TB := fx_mem 443 (by decide +kernel) rfl
theorem tb_348 : (Jvm.Cond.code ({ cls := "FearLocks$DreadsReader", name := "readLine", desc := "()Z" } : Jvm.MethodName) prog_4_method_3_code (4 : Nat) (Option.some Jvm.ClassFile.FieldType.boolean)) ∈ fx_TB := fx_mem 444 (by decide +kernel) rfl
theorem tb_349 : (Jvm.Cond.methodLink "FearLocks$DreadsReader" (25 : Nat) ({ cls := "FearLocks$DreadsReader", name := "readFears", desc := "()I" } : Jvm.MethodName)) ∈ fx_TB := fx_mem 445 (by decide +kernel) rfl
theorem tb_350 : (Jvm.Cond.privateMethod ({ cls := "FearLocks$DreadsReader", name := "readFears", desc := "()I" } : Jvm.MethodName)) ∈ fx_TB := fx_mem 446 (by decide +kernel) rfl
theorem tb_351 : (Jvm.Cond.instanceMethod ({ cls := "FearLocks$DreadsReader", name := "readFears", desc := "()I" } : Jvm.MethodName)) ∈ fx_TB := fx_mem 447 (by decide +kernel) rfl
theorem tb_352 : (Jvm.Cond.instantiable "FearLocks$DreadsReader" (3 : Nat)) ∈ fx_TB := fx_mem 448 (by decide +kernel) rfl
theorem tb_353 : (Jvm.Cond.code ({ cls := "FearLocks$DreadsReader", name := "readFears", desc := "()I" } : Jvm.MethodName) prog_4_method_4_code (3 : Nat) (Option.some Jvm.ClassFile.FieldType.int)) ∈ fx_TB := fx_mem 449 (by decide +kernel) rfl
theorem tb_354 : (Jvm.Cond.methodLink "FearLocks$DreadsReader" (33 : Nat) ({ cls := "FearLocks$Tape", name := "now", desc := "()I" } : Jvm.MethodName)) ∈ fx_TB := fx_mem 450 (by decide +kernel) rfl
theorem tb_355 : (Jvm.Cond.constant "FearLocks$DreadsReader" (56 : Nat) (65535 : Int32)) ∈ fx_TB := fx_mem 451 (by decide +kernel) rfl
theorem tb_356 : (Jvm.Cond.methodLinkNest "FearLocks$DreadsReader" (60 : Nat) ({ cls := "FearLocks", name := "has", desc := "(II)Z" } : Jvm.MethodName) "FearLocks") ∈ fx_TB := fx_mem 452 (by decide +kernel) rfl
theorem tb_357 : (Jvm.Cond.static ({ cls := "FearLocks", name := "has", desc := "(II)Z" } : Jvm.MethodName)) ∈ fx_TB := fx_mem 453 (by decide +kernel) rfl
theorem tb_358 : (Jvm.Cond.code ({ cls := "FearLocks", name := "has", desc := "(II)Z" } : Jvm.MethodName) prog_1_method_33_code (2 : Nat) (Option.some Jvm.ClassFile.FieldType.boolean)) ∈ fx_TB := fx_mem 454 (by decide +kernel) rfl
theorem tb_359 : (Jvm.Cond.methodLink "FearLocks$DreadsReader" (64 : Nat) ({ cls := "FearLocks$Tape", name := "fail", desc := "(II)Z" } : Jvm.MethodName)) ∈ fx_TB := fx_mem 455 (by decide +kernel) rfl
theorem tb_360 : (Jvm.Cond.methodLink "FearLocks$DreadsReader" (36 : Nat) ({ cls := "FearLocks$Tape", name := "cannotStand", desc := "()Z" } : Jvm.MethodName)) ∈ fx_TB := fx_mem 456 (by decide +kernel) rfl
theorem tb_361 : (Jvm.Cond.methodLink "FearLocks$DreadsReader" (43 : Nat) ({ cls := "FearLocks$Tape", name := "readNumber", desc := "(I)I" } : Jvm.MethodName)) ∈ fx_TB := fx_mem 457 (by decide +kernel) rfl
theorem tb_362 : (Jvm.Cond.instanceMethod ({ cls := "FearLocks$Tape", name := "readNumber", desc := "(I)I" } : Jvm.MethodName)) ∈ fx_TB := fx_mem 458 (by decide +kernel) rfl
theorem tb_363 : (Jvm.Cond.selects "FearLocks$Tape" ({ cls := "FearLocks$Tape", name := "readNumber", desc := "(I)I" } : Jvm.MethodName) ({ cls := "FearLocks$Tape", name := "readNumber", desc := "(I)I" } : Jvm.MethodName)) ∈ fx_TB := fx_mem 459 (by decide +kernel) rfl
theorem tb_364 : (Jvm.Cond.code ({ cls := "FearLocks$Tape", name := "readNumber", desc := "(I)I" } : Jvm.MethodName) prog_12_method_10_code (4 : Nat) (Option.some Jvm.ClassFile.FieldType.int)) ∈ fx_TB := fx_mem 460 (by decide +kernel) rfl
theorem tb_365 : (Jvm.Cond.methodLink "FearLocks$Tape" (36 : Nat) ({ cls := "FearLocks$Tape", name := "isDigit", desc := "(I)Z" } : Jvm.MethodName)) ∈ fx_TB := fx_mem 461 (by decide +kernel) rfl
theorem tb_366 : (Jvm.Cond.methodLink "FearLocks$DreadsReader" (52 : Nat) ({ cls := "FearLocks$DreadsReader", name := "change", desc := "(III)V" } : Jvm.MethodName)) ∈ fx_TB := fx_mem 462 (by decide +kernel) rfl
theorem tb_367 : (Jvm.Cond.privateMethod ({ cls := "FearLocks$DreadsReader", name := "change", desc := "(III)V" } : Jvm.MethodName)) ∈ fx_TB := fx_mem 463 (by decide +kernel) rfl
theorem tb_368 : (Jvm.Cond.instanceMethod ({ cls := "FearLocks$DreadsReader", name := "change", desc := "(III)V" } : Jvm.MethodName)) ∈ fx_TB := fx_mem 464 (by decide +kernel) rfl
theorem tb_369 : (Jvm.Cond.code ({ cls := "FearLocks$DreadsReader", name := "change", desc := "(III)V" } : Jvm.MethodName) prog_4_method_5_code (6 : Nat) (Option.none : Option Jvm.ClassFile.FieldType)) ∈ fx_TB := fx_mem 465 (by decide +kernel) rfl
theorem tb_370 : (Jvm.Cond.methodLink "FearLocks$DreadsReader" (67 : Nat) ({ cls := "FearLocks$City", name := "dreadOf", desc := "(II)I" } : Jvm.MethodName)) ∈ fx_TB := fx_mem 466 (by decide +kernel) rfl
theorem tb_371 : (Jvm.Cond.instanceMethod ({ cls := "FearLocks$City", name := "dreadOf", desc := "(II)I" } : Jvm.MethodName)) ∈ fx_TB := fx_mem 467 (by decide +kernel) rfl
theorem tb_372 : (Jvm.Cond.selects "FearLocks$City" ({ cls := "FearLocks$City", name := "dreadOf", desc := "(II)I" } : Jvm.MethodName) ({ cls := "FearLocks$City", name := "dreadOf", desc := "(II)I" } : Jvm.MethodName)) ∈ fx_TB := fx_mem 468 (by decide +kernel) rfl
theorem tb_373 : (Jvm.Cond.code ({ cls := "FearLocks$City", name := "dreadOf", desc := "(II)I" } : Jvm.MethodName) prog_2_method_4_code (3 : Nat) (Option.some Jvm.ClassFile.FieldType.int)) ∈ fx_TB := fx_mem 469 (by decide +kernel) rfl
theorem tb_374 : (Jvm.Cond.methodLink "FearLocks$DreadsReader" (71 : Nat) ({ cls := "FearLocks$City", name := "setDread", desc := "(III)V" } : Jvm.MethodName)) ∈ fx_TB := fx_mem 470 (by decide +kernel) rfl
theorem tb_375 : (Jvm.Cond.instanceMethod ({ cls := "FearLocks$City", name := "setDread", desc := "(III)V" } : Jvm.MethodName)) ∈ fx_TB := fx_mem 471 (by decide +kernel) rfl
theorem tb_376 : (Jvm.Cond.selects "FearLocks$City" ({ cls := "FearLocks$City", name := "setDread", desc := "(III)V" } : Jvm.MethodName) ({ cls := "FearLocks$City", name := "setDread", desc := "(III)V" } : Jvm.MethodName)) ∈ fx_TB := fx_mem 472 (by decide +kernel) rfl
theorem tb_377 : (Jvm.Cond.code ({ cls := "FearLocks$City", name := "setDread", desc := "(III)V" } : Jvm.MethodName) prog_2_method_5_code (4 : Nat) (Option.none : Option Jvm.ClassFile.FieldType)) ∈ fx_TB := fx_mem 473 (by decide +kernel) rfl
theorem tb_378 : (Jvm.Cond.methodLinkNest "FearLocks$City" (46 : Nat) ({ cls := "FearLocks", name := "bounded", desc := "(III)I" } : Jvm.MethodName) "FearLocks") ∈ fx_TB := fx_mem 474 (by decide +kernel) rfl
theorem tb_379 : (Jvm.Cond.static ({ cls := "FearLocks", name := "bounded", desc := "(III)I" } : Jvm.MethodName)) ∈ fx_TB := fx_mem 475 (by decide +kernel) rfl
theorem tb_380 : (Jvm.Cond.code ({ cls := "FearLocks", name := "bounded", desc := "(III)I" } : Jvm.MethodName) prog_1_method_32_code (3 : Nat) (Option.some Jvm.ClassFile.FieldType.int)) ∈ fx_TB := fx_mem 476 (by decide +kernel) rfl
theorem tb_381 : (Jvm.Cond.methodLink "FearLocks" (286 : Nat) ({ cls := "java/lang/Math", name := "min", desc := "(II)I" } : Jvm.MethodName)) ∈ fx_TB := fx_mem 477 (by decide +kernel) rfl
theorem tb_382 : (Jvm.Cond.static ({ cls := "java/lang/Math", name := "min", desc := "(II)I" } : Jvm.MethodName)) ∈ fx_TB := fx_mem 478 (by decide +kernel) rfl
theorem tb_383 : (Jvm.Cond.code ({ cls := "java/lang/Math", name := "min", desc := "(II)I" } : Jvm.MethodName) prog_17_method_69_code (2 : Nat) (Option.some Jvm.ClassFile.FieldType.int)) ∈ fx_TB := fx_mem 479 (by decide +kernel) rfl
theorem tb_384 : (Jvm.Cond.methodLink "FearLocks" (291 : Nat) ({ cls := "java/lang/Math", name := "max", desc := "(II)I" } : Jvm.MethodName)) ∈ fx_TB := fx_mem 480 (by decide +kernel) rfl
theorem tb_385 : (Jvm.Cond.static ({ cls := "java/lang/Math", name := "max", desc := "(II)I" } : Jvm.MethodName)) ∈ fx_TB := fx_mem 481 (by decide +kernel) rfl
theorem tb_386 : (Jvm.Cond.code ({ cls := "java/lang/Math", name := "max", desc := "(II)I" } : Jvm.MethodName) prog_17_method_65_code (2 : Nat) (Option.some Jvm.ClassFile.FieldType.int)) ∈ fx_TB := fx_mem 482 (by decide +kernel) rfl
theorem tb_387 : (Jvm.Cond.selects "FearLocks$LawReader" ({ cls := "FearLocks$LinesReader", name := "readLine", desc := "()Z" } : Jvm.MethodName) ({ cls := "FearLocks$LawReader", name := "readLine", desc := "()Z" } : Jvm.MethodName)) ∈ fx_TB := fx_mem 483 (by decide +kernel) rfl
theorem tb_388 : (Jvm.Cond.instanceMethod ({ cls := "FearLocks$LawReader", name := "readLine", desc := "()Z" } : Jvm.MethodName)) ∈ fx_TB := fx_mem 484 (by decide +kernel) rfl
theorem tb_389 : (Jvm.Cond.code ({ cls := "FearLocks$LawReader", name := "readLine", desc := "()Z" } : Jvm.MethodName) prog_7_method_3_code (2 : Nat) (Option.some Jvm.ClassFile.FieldType.boolean)) ∈ fx_TB := fx_mem 485 (by decide +kernel) rfl
theorem tb_390 : (Jvm.Cond.methodLink "FearLocks$LawReader" (19 : Nat) ({ cls := "FearLocks$Tape", name := "now", desc := "()I" } : Jvm.MethodName)) ∈ fx_TB := fx_mem 486 (by decide +kernel) rfl
theorem tb_391 : (Jvm.Cond.methodLink "FearLocks$LawReader" (29 : Nat) ({ cls := "FearLocks$Law", name := "startRule", desc := "(I)V" } : Jvm.MethodName)) ∈ fx_TB := fx_mem 487 (by decide +kernel) rfl
theorem tb_392 : (Jvm.Cond.instanceMethod ({ cls := "FearLocks$Law", name := "startRule", desc := "(I)V" } : Jvm.MethodName)) ∈ fx_TB := fx_mem 488 (by decide +kernel) rfl
theorem tb_393 : (Jvm.Cond.selects "FearLocks$Law" ({ cls := "FearLocks$Law", name := "startRule", desc := "(I)V" } : Jvm.MethodName) ({ cls := "FearLocks$Law", name := "startRule", desc := "(I)V" } : Jvm.MethodName)) ∈ fx_TB := fx_mem 489 (by decide +kernel) rfl
theorem tb_394 : (Jvm.Cond.code ({ cls := "FearLocks$Law", name := "startRule", desc := "(I)V" } : Jvm.MethodName) prog_6_method_3_code (2 : Nat) (Option.none : Option Jvm.ClassFile.FieldType)) ∈ fx_TB := fx_mem 490 (by decide +kernel) rfl
theorem tb_395 : (Jvm.Cond.methodLink "FearLocks$LawReader" (35 : Nat) ({ cls := "FearLocks$LawReader", name := "readSum", desc := "(I)Z" } : Jvm.MethodName)) ∈ fx_TB := fx_mem 491 (by decide +kernel) rfl
theorem tb_396 : (Jvm.Cond.privateMethod ({ cls := "FearLocks$LawReader", name := "readSum", desc := "(I)Z" } : Jvm.MethodName)) ∈ fx_TB := fx_mem 492 (by decide +kernel) rfl
theorem tb_397 : (Jvm.Cond.instanceMethod ({ cls := "FearLocks$LawReader", name := "readSum", desc := "(I)Z" } : Jvm.MethodName)) ∈ fx_TB := fx_mem 493 (by decide +kernel) rfl
theorem tb_398 : (Jvm.Cond.code ({ cls := "FearLocks$LawReader", name := "readSum", desc := "(I)Z" } : Jvm.MethodName) prog_7_method_10_code (3 : Nat) (Option.some Jvm.ClassFile.FieldType.boolean)) ∈ fx_TB := fx_mem 494 (by decide +kernel) rfl
theorem tb_399 : (Jvm.Cond.methodLink "FearLocks$LawReader" (85 : Nat) ({ cls := "FearLocks$LawReader", name := "readProduct", desc := "(I)Z" } : Jvm.MethodName)) ∈ fx_TB := fx_mem 495 (by decide +kernel) rfl
theorem tb_400 : (Jvm.Cond.privateMethod ({ cls := "FearLocks$LawReader", name := "readProduct", desc := "(I)Z" } : Jvm.MethodName)) ∈ fx_TB := fx_mem 496 (by decide +kernel) rfl
theorem tb_401 : (Jvm.Cond.instanceMethod ({ cls := "FearLocks$LawReader", name := "readProduct", desc := "(I)Z" } : Jvm.MethodName)) ∈ fx_TB := fx_mem 497 (by decide +kernel) rfl
theorem tb_402 : (Jvm.Cond.code ({ cls := "FearLocks$LawReader", name := "readProduct", desc := "(I)Z" } : Jvm.MethodName) prog_7_method_11_code (3 : Nat) (Option.some Jvm.ClassFile.FieldType.boolean)) ∈ fx_TB := fx_mem 498 (by decide +kernel) rfl
theorem tb_403 : (Jvm.Cond.methodLink "FearLocks$LawReader" (88 : Nat) ({ cls := "FearLocks$LawReader", name := "readFactor", desc := "(I)Z" } : Jvm.MethodName)) ∈ fx_TB := fx_mem 499 (by decide +kernel) rfl
theorem tb_404 : (Jvm.Cond.privateMethod ({ cls := "FearLocks$LawReader", name := "readFactor", desc := "(I)Z" } : Jvm.MethodName)) ∈ fx_TB := fx_mem 500 (by decide +kernel) rfl
theorem tb_405 : (Jvm.Cond.instanceMethod ({ cls := "FearLocks$LawReader", name := "readFactor", desc := "(I)Z" } : Jvm.MethodName)) ∈ fx_TB := fx_mem 501 (by decide +kernel) rfl
theorem tb_406 : (Jvm.Cond.code ({ cls := "FearLocks$LawReader", name := "readFactor", desc := "(I)Z" } : Jvm.MethodName) prog_7_method_13_code (4 : Nat) (Option.some Jvm.ClassFile.FieldType.boolean)) ∈ fx_TB := fx_mem 502 (by decide +kernel) rfl
theorem tb_407 : (Jvm.Cond.methodLink "FearLocks$LawReader" (71 : Nat) ({ cls := "FearLocks$LawReader", name := "open", desc := "(I)Z" } : Jvm.MethodName)) ∈ fx_TB := fx_mem 503 (by decide +kernel) rfl
theorem tb_408 : (Jvm.Cond.privateMethod ({ cls := "FearLocks$LawReader", name := "open", desc := "(I)Z" } : Jvm.MethodName)) ∈ fx_TB := fx_mem 504 (by decide +kernel) rfl
theorem tb_409 : (Jvm.Cond.instanceMethod ({ cls := "FearLocks$LawReader", name := "open", desc := "(I)Z" } : Jvm.MethodName)) ∈ fx_TB := fx_mem 505 (by decide +kernel) rfl
theorem tb_410 : (Jvm.Cond.code ({ cls := "FearLocks$LawReader", name := "open", desc := "(I)Z" } : Jvm.MethodName) prog_7_method_8_code (2 : Nat) (Option.some Jvm.ClassFile.FieldType.boolean)) ∈ fx_TB := fx_mem 506 (by decide +kernel) rfl
theorem tb_411 : (Jvm.Cond.methodLink "FearLocks$LawReader" (77 : Nat) ({ cls := "FearLocks$Tape", name := "fail", desc := "(II)Z" } : Jvm.MethodName)) ∈ fx_TB := fx_mem 507 (by decide +kernel) rfl
theorem tb_412 : (Jvm.Cond.methodLink "FearLocks$LawReader" (47 : Nat) ({ cls := "FearLocks$Tape", name := "expect", desc := "(I)Z" } : Jvm.MethodName)) ∈ fx_TB := fx_mem 508 (by decide +kernel) rfl
theorem tb_413 : (Jvm.Cond.methodLink "FearLocks$LawReader" (94 : Nat) ({ cls := "FearLocks$Tape", name := "isDigit", desc := "(I)Z" } : Jvm.MethodName)) ∈ fx_TB := fx_mem 509 (by decide +kernel) rfl
theorem tb_414 : (Jvm.Cond.methodLink "FearLocks$LawReader" (97 : Nat) ({ cls := "FearLocks$Tape", name := "readNumber", desc := "(I)I" } : Jvm.MethodName)) ∈ fx_TB := fx_mem 510 (by decide +kernel) rfl
theorem tb_415 : (Jvm.Cond.methodLink "FearLocks$LawReader" (39 : Nat) ({ cls := "FearLocks$Law", name := "add", desc := "(II)I" } : Jvm.MethodName)) ∈ fx_TB := fx_mem 511 (by decide +kernel) rfl
theorem tb_416 : (Jvm.Cond.instanceMethod ({ cls := "FearLocks$Law", name := "add", desc := "(II)I" } : Jvm.MethodName)) ∈ fx_TB := fx_mem 512 (by decide +kernel) rfl
theorem tb_417 : (Jvm.Cond.selects "FearLocks$Law" ({ cls := "FearLocks$Law", name := "add", desc := "(II)I" } : Jvm.MethodName) ({ cls := "FearLocks$Law", name := "add", desc := "(II)I" } : Jvm.MethodName)) ∈ fx_TB := fx_mem 513 (by decide +kernel) rfl
theorem tb_418 : (Jvm.Cond.code ({ cls := "FearLocks$Law", name := "add", desc := "(II)I" } : Jvm.MethodName) prog_6_method_6_code (3 : Nat) (Option.some Jvm.ClassFile.FieldType.int)) ∈ fx_TB := fx_mem 514 (by decide +kernel) rfl
theorem tb_419 : (Jvm.Cond.stringRef "FearLocks$LawReader" (101 : Nat) "kdfvgmnotw") ∈ fx_TB := fx_mem 515 (by decide +kernel) rfl
theorem tb_420 : (Jvm.Cond.methodLink "FearLocks$LawReader" (103 : Nat) ({ cls := "java/lang/String", name := "indexOf", desc := "(I)I" } : Jvm.MethodName)) ∈ fx_TB := fx_mem 516 (by decide +kernel) rfl
theorem tb_421 : (Jvm.Cond.instanceMethod ({ cls := "java/lang/String", name := "indexOf", desc := "(I)I" } : Jvm.MethodName)) ∈ fx_TB := fx_mem 517 (by decide +kernel) rfl
theorem tb_422 : (Jvm.Cond.selects "java/lang/String" ({ cls := "java/lang/String", name := "indexOf", desc := "(I)I" } : Jvm.MethodName) ({ cls := "java/lang/String", name := "indexOf", desc := "(I)I" } : Jvm.MethodName)) ∈ fx_TB := fx_mem 518 (by decide +kernel) rfl
theorem tb_423 : (Jvm.Cond.code ({ cls := "java/lang/String", name := "indexOf", desc := "(I)I" } : Jvm.MethodName) prog_18_method_79_code (2 : Nat) (Option.some Jvm.ClassFile.FieldType.int)) ∈ fx_TB := fx_mem 519 (by decide +kernel) rfl
theorem tb_424 : (Jvm.Cond.methodLink "java/lang/String" (633 : Nat) ({ cls := "java/lang/String", name := "indexOf", desc := "(II)I" } : Jvm.MethodName)) ∈ fx_TB := fx_mem 520 (by decide +kernel) rfl
theorem tb_425 : (Jvm.Cond.instanceMethod ({ cls := "java/lang/String", name := "indexOf", desc := "(II)I" } : Jvm.MethodName)) ∈ fx_TB := fx_mem 521 (by decide +kernel) rfl
theorem tb_426 : (Jvm.Cond.selects "java/lang/String" ({ cls := "java/lang/String", name := "indexOf", desc := "(II)I" } : Jvm.MethodName) ({ cls := "java/lang/String", name := "indexOf", desc := "(II)I" } : Jvm.MethodName)) ∈ fx_TB := fx_mem 522 (by decide +kernel) rfl
theorem tb_427 : (Jvm.Cond.code ({ cls := "java/lang/String", name := "indexOf", desc := "(II)I" } : Jvm.MethodName) prog_18_method_80_code (3 : Nat) (Option.some Jvm.ClassFile.FieldType.int)) ∈ fx_TB := fx_mem 523 (by decide +kernel) rfl
theorem tb_428 : (Jvm.Cond.methodLink "java/lang/String" (492 : Nat) ({ cls := "java/lang/String", name := "isLatin1", desc := "()Z" } : Jvm.MethodName)) ∈ fx_TB := fx_mem 524 (by decide +kernel) rfl
theorem tb_429 : (Jvm.Cond.instanceMethod ({ cls := "java/lang/String", name := "isLatin1", desc := "()Z" } : Jvm.MethodName)) ∈ fx_TB := fx_mem 525 (by decide +kernel) rfl
theorem tb_430 : (Jvm.Cond.selects "java/lang/String" ({ cls := "java/lang/String", name := "isLatin1", desc := "()Z" } : Jvm.MethodName) ({ cls := "java/lang/String", name := "isLatin1", desc := "()Z" } : Jvm.MethodName)) ∈ fx_TB := fx_mem 526 (by decide +kernel) rfl
theorem tb_431 : (Jvm.Cond.code ({ cls := "java/lang/String", name := "isLatin1", desc := "()Z" } : Jvm.MethodName) prog_18_method_154_code (1 : Nat) (Option.some Jvm.ClassFile.FieldType.boolean)) ∈ fx_TB := fx_mem 527 (by decide +kernel) rfl
theorem tb_432 : (Jvm.Cond.methodLink "java/lang/String" (505 : Nat) ({ cls := "java/lang/String", name := "length", desc := "()I" } : Jvm.MethodName)) ∈ fx_TB := fx_mem 528 (by decide +kernel) rfl
theorem tb_433 : (Jvm.Cond.methodLink "java/lang/String" (637 : Nat) ({ cls := "java/lang/StringLatin1", name := "indexOf", desc := "([BIII)I" } : Jvm.MethodName)) ∈ fx_TB := fx_mem 529 (by decide +kernel) rfl
theorem tb_434 : (Jvm.Cond.static ({ cls := "java/lang/StringLatin1", name := "indexOf", desc := "([BIII)I" } : Jvm.MethodName)) ∈ fx_TB := fx_mem 530 (by decide +kernel) rfl
theorem tb_435 : (Jvm.Cond.code ({ cls := "java/lang/StringLatin1", name := "indexOf", desc := "([BIII)I" } : Jvm.MethodName) prog_19_method_22_code (4 : Nat) (Option.some Jvm.ClassFile.FieldType.int)) ∈ fx_TB := fx_mem 531 (by decide +kernel) rfl
theorem tb_436 : (Jvm.Cond.methodLink "java/lang/StringLatin1" (88 : Nat) ({ cls := "java/lang/StringLatin1", name := "canEncode", desc := "(I)Z" } : Jvm.MethodName)) ∈ fx_TB := fx_mem 532 (by decide +kernel) rfl
theorem tb_437 : (Jvm.Cond.static ({ cls := "java/lang/StringLatin1", name := "canEncode", desc := "(I)Z" } : Jvm.MethodName)) ∈ fx_TB := fx_mem 533 (by decide +kernel) rfl
theorem tb_438 : (Jvm.Cond.code ({ cls := "java/lang/StringLatin1", name := "canEncode", desc := "(I)Z" } : Jvm.MethodName) prog_19_method_4_code (1 : Nat) (Option.some Jvm.ClassFile.FieldType.boolean)) ∈ fx_TB := fx_mem 534 (by decide +kernel) rfl
theorem tb_439 : (Jvm.Cond.methodLink "java/lang/StringLatin1" (92 : Nat) ({ cls := "java/lang/Math", name := "max", desc := "(II)I" } : Jvm.MethodName)) ∈ fx_TB := fx_mem 535 (by decide +kernel) rfl
theorem tb_440 : (Jvm.Cond.methodLink "java/lang/StringLatin1" (38 : Nat) ({ cls := "java/lang/Math", name := "min", desc := "(II)I" } : Jvm.MethodName)) ∈ fx_TB := fx_mem 536 (by decide +kernel) rfl
theorem tb_441 : (Jvm.Cond.methodLink "java/lang/StringLatin1" (95 : Nat) ({ cls := "java/lang/StringLatin1", name := "indexOfChar", desc := "([BIII)I" } : Jvm.MethodName)) ∈ fx_TB := fx_mem 537 (by decide +kernel) rfl
theorem tb_442 : (Jvm.Cond.static ({ cls := "java/lang/StringLatin1", name := "indexOfChar", desc := "([BIII)I" } : Jvm.MethodName)) ∈ fx_TB := fx_mem 538 (by decide +kernel) rfl
theorem tb_443 : (Jvm.Cond.code ({ cls := "java/lang/StringLatin1", name := "indexOfChar", desc := "([BIII)I" } : Jvm.MethodName) prog_19_method_23_code (6 : Nat) (Option.some Jvm.ClassFile.FieldType.int)) ∈ fx_TB := fx_mem 539 (by decide +kernel) rfl
theorem tb_444 : (Jvm.Cond.methodLink "java/lang/String" (640 : Nat) ({ cls := "java/lang/StringUTF16", name := "indexOf", desc := "([BIII)I" } : Jvm.MethodName)) ∈ fx_TB := fx_mem 540 (by decide +kernel) rfl
theorem tb_445 : (Jvm.Cond.static ({ cls := "java/lang/StringUTF16", name := "indexOf", desc := "([BIII)I" } : Jvm.MethodName)) ∈ fx_TB := fx_mem 541 (by decide +kernel) rfl
theorem tb_446 : (Jvm.Cond.code ({ cls := "java/lang/StringUTF16", name := "indexOf", desc := "([BIII)I" } : Jvm.MethodName) prog_20_method_40_code (4 : Nat) (Option.some Jvm.ClassFile.FieldType.int)) ∈ fx_TB := fx_mem 542 (by decide +kernel) rfl
theorem tb_447 : (Jvm.Cond.methodLink "java/lang/StringUTF16" (224 : Nat) ({ cls := "java/lang/Math", name := "max", desc := "(II)I" } : Jvm.MethodName)) ∈ fx_TB := fx_mem 543 (by decide +kernel) rfl
theorem tb_448 : (Jvm.Cond.methodLink "java/lang/StringUTF16" (183 : Nat) ({ cls := "java/lang/Math", name := "min", desc := "(II)I" } : Jvm.MethodName)) ∈ fx_TB := fx_mem 544 (by decide +kernel) rfl
theorem tb_449 : (Jvm.Cond.constant "java/lang/StringUTF16" (227 : Nat) (65536 : Int32)) ∈ fx_TB := fx_mem 545 (by decide +kernel) rfl
theorem tb_450 : (Jvm.Cond.methodLink "java/lang/StringUTF16" (228 : Nat) ({ cls := "java/lang/StringUTF16", name := "indexOfChar", desc := "([BIII)I" } : Jvm.MethodName)) ∈ fx_TB := fx_mem 546 (by decide +kernel) rfl
theorem tb_451 : (Jvm.Cond.static ({ cls := "java/lang/StringUTF16", name := "indexOfChar", desc := "([BIII)I" } : Jvm.MethodName)) ∈ fx_TB := fx_mem 547 (by decide +kernel) rfl
theorem tb_452 : (Jvm.Cond.code ({ cls := "java/lang/StringUTF16", name := "indexOfChar", desc := "([BIII)I" } : Jvm.MethodName) prog_20_method_47_code (4 : Nat) (Option.some Jvm.ClassFile.FieldType.int)) ∈ fx_TB := fx_mem 548 (by decide +kernel) rfl
theorem tb_453 : (Jvm.Cond.methodLink "java/lang/StringUTF16" (96 : Nat) ({ cls := "java/lang/StringUTF16", name := "checkBoundsBeginEnd", desc := "(II[B)V" } : Jvm.MethodName)) ∈ fx_TB := fx_mem 549 (by decide +kernel) rfl
theorem tb_454 : (Jvm.Cond.static ({ cls := "java/lang/StringUTF16", name := "checkBoundsBeginEnd", desc := "(II[B)V" } : Jvm.MethodName)) ∈ fx_TB := fx_mem 550 (by decide +kernel) rfl
theorem tb_455 : (Jvm.Cond.code ({ cls := "java/lang/StringUTF16", name := "checkBoundsBeginEnd", desc := "(II[B)V" } : Jvm.MethodName) prog_20_method_93_code (3 : Nat) (Option.none : Option Jvm.ClassFile.FieldType)) ∈ fx_TB := fx_mem 551 (by decide +kernel) rfl
theorem tb_456 : (Jvm.Cond.methodLink "java/lang/StringUTF16" (48 : Nat) ({ cls := "java/lang/StringUTF16", name := "length", desc := "([B)I" } : Jvm.MethodName)) ∈ fx_TB := fx_mem 552 (by decide +kernel) rfl
theorem tb_457 : (Jvm.Cond.static ({ cls := "java/lang/StringUTF16", name := "length", desc := "([B)I" } : Jvm.MethodName)) ∈ fx_TB := fx_mem 553 (by decide +kernel) rfl
theorem tb_458 : (Jvm.Cond.code ({ cls := "java/lang/StringUTF16", name := "length", desc := "([B)I" } : Jvm.MethodName) prog_20_method_6_code (1 : Nat) (Option.some Jvm.ClassFile.FieldType.int)) ∈ fx_TB := fx_mem 554 (by decide +kernel) rfl
theorem tb_459 : (Jvm.Cond.methodLink "java/lang/StringUTF16" (241 : Nat) ({ cls := "java/lang/String", name := "checkBoundsBeginEnd", desc := "(III)V" } : Jvm.MethodName)) ∈ fx_TB := fx_mem 555 (by decide +kernel) rfl
theorem tb_460 : (Jvm.Cond.static ({ cls := "java/lang/String", name := "checkBoundsBeginEnd", desc := "(III)V" } : Jvm.MethodName)) ∈ fx_TB := fx_mem 556 (by decide +kernel) rfl
theorem tb_461 : (Jvm.Cond.code ({ cls := "java/lang/String", name := "checkBoundsBeginEnd", desc := "(III)V" } : Jvm.MethodName) prog_18_method_158_code (3 : Nat) (Option.none : Option Jvm.ClassFile.FieldType)) ∈ fx_TB := fx_mem 557 (by decide +kernel) rfl
theorem tb_462 : (Jvm.Cond.fieldLink "java/lang/String" (1053 : Nat) "jdk/internal/util/Preconditions" "SIOOBE_FORMATTER" "Ljava/util/function/BiFunction;") ∈ fx_TB := fx_mem 558 (by decide +kernel) rfl
theorem tb_463 : (Jvm.Cond.laysStatic "jdk/internal/util/Preconditions" "SIOOBE_FORMATTER" "Ljava/util/function/BiFunction;") ∈ fx_TB := fx_mem 559 (by decide +kernel) rfl
theorem tb_464 : (Jvm.Cond.methodLink "java/lang/String" (1062 : Nat) ({ cls := "jdk/internal/util/Preconditions", name := "checkFromToIndex", desc := "(IIILjava/util/function/BiFunction;)I" } : Jvm.MethodName)) ∈ fx_TB := fx_mem 560 (by decide +kernel) rfl
theorem tb_465 : (Jvm.Cond.static ({ cls := "jdk/internal/util/Preconditions", name := "checkFromToIndex", desc := "(IIILjava/util/function/BiFunction;)I" } : Jvm.MethodName)) ∈ fx_TB := fx_mem 561 (by decide +kernel) rfl
theorem tb_466 : (Jvm.Cond.code ({ cls := "jdk/internal/util/Preconditions", name := "checkFromToIndex", desc := "(IIILjava/util/function/BiFunction;)I" } : Jvm.MethodName) prog_21_method_12_code (4 : Nat) (Option.some Jvm.ClassFile.FieldType.int)) ∈ fx_TB := fx_mem 562 (by decide +kernel) rfl
theorem tb_467 : (Jvm.Cond.methodLink "java/lang/StringUTF16" (244 : Nat) ({ cls := "java/lang/StringUTF16", name := "indexOfCharUnsafe", desc := "([BIII)I" } : Jvm.MethodName)) ∈ fx_TB := fx_mem 563 (by decide +kernel) rfl
theorem tb_468 : (Jvm.Cond.static ({ cls := "java/lang/StringUTF16", name := "indexOfCharUnsafe", desc := "([BIII)I" } : Jvm.MethodName)) ∈ fx_TB := fx_mem 564 (by decide +kernel) rfl
theorem tb_469 : (Jvm.Cond.code ({ cls := "java/lang/StringUTF16", name := "indexOfCharUnsafe", desc := "([BIII)I" } : Jvm.MethodName) prog_20_method_48_code (5 : Nat) (Option.some Jvm.ClassFile.FieldType.int)) ∈ fx_TB := fx_mem 565 (by decide +kernel) rfl
theorem tb_470 : (Jvm.Cond.methodLink "java/lang/StringUTF16" (71 : Nat) ({ cls := "java/lang/StringUTF16", name := "getChar", desc := "([BI)C" } : Jvm.MethodName)) ∈ fx_TB := fx_mem 566 (by decide +kernel) rfl
theorem tb_471 : (Jvm.Cond.static ({ cls := "java/lang/StringUTF16", name := "getChar", desc := "([BI)C" } : Jvm.MethodName)) ∈ fx_TB := fx_mem 567 (by decide +kernel) rfl
theorem tb_472 : (Jvm.Cond.code ({ cls := "java/lang/StringUTF16", name := "getChar", desc := "([BI)C" } : Jvm.MethodName) prog_20_method_5_code (2 : Nat) (Option.some Jvm.ClassFile.FieldType.char)) ∈ fx_TB := fx_mem 568 (by decide +kernel) rfl
theorem tb_473 : (Jvm.Cond.fieldLink "java/lang/StringUTF16" (44 : Nat) "java/lang/StringUTF16" "$assertionsDisabled" "Z") ∈ fx_TB := fx_mem 569 (by decide +kernel) rfl
theorem tb_474 : (Jvm.Cond.laysStatic "java/lang/StringUTF16" "$assertionsDisabled" "Z") ∈ fx_TB := fx_mem 570 (by decide +kernel) rfl
theorem tb_475 : (Jvm.Cond.fieldLink "java/lang/StringUTF16" (59 : Nat) "java/lang/StringUTF16" "HI_BYTE_SHIFT" "I") ∈ fx_TB := fx_mem 571 (by decide +kernel) rfl
theorem tb_476 : (Jvm.Cond.laysStatic "java/lang/StringUTF16" "HI_BYTE_SHIFT" "I") ∈ fx_TB := fx_mem 572 (by decide +kernel) rfl
theorem tb_477 : (Jvm.Cond.fieldLink "java/lang/StringUTF16" (63 : Nat) "java/lang/StringUTF16" "LO_BYTE_SHIFT" "I") ∈ fx_TB := fx_mem 573 (by decide +kernel) rfl
theorem tb_478 : (Jvm.Cond.laysStatic "java/lang/StringUTF16" "LO_BYTE_SHIFT" "I") ∈ fx_TB := fx_mem 574 (by decide +kernel) rfl
theorem tb_479 : (Jvm.Cond.methodLink "java/lang/StringUTF16" (232 : Nat) ({ cls := "java/lang/StringUTF16", name := "indexOfSupplementary", desc := "([BIII)I" } : Jvm.MethodName)) ∈ fx_TB := fx_mem 575 (by decide +kernel) rfl
theorem tb_480 : (Jvm.Cond.static ({ cls := "java/lang/StringUTF16", name := "indexOfSupplementary", desc := "([BIII)I" } : Jvm.MethodName)) ∈ fx_TB := fx_mem 576 (by decide +kernel) rfl
theorem tb_481 : (Jvm.Cond.code ({ cls := "java/lang/StringUTF16", name := "indexOfSupplementary", desc := "([BIII)I" } : Jvm.MethodName) prog_20_method_49_code (7 : Nat) (Option.some Jvm.ClassFile.FieldType.int)) ∈ fx_TB := fx_mem 577 (by decide +kernel) rfl
theorem tb_482 : (Jvm.Cond.methodLink "java/lang/StringUTF16" (164 : Nat) ({ cls := "java/lang/Character", name := "isValidCodePoint", desc := "(I)Z" } : Jvm.MethodName)) ∈ fx_TB := fx_mem 578 (by decide +kernel) rfl
theorem tb_483 : (Jvm.Cond.static ({ cls := "java/lang/Character", name := "isValidCodePoint", desc := "(I)Z" } : Jvm.MethodName)) ∈ fx_TB := fx_mem 579 (by decide +kernel) rfl
theorem tb_484 : (Jvm.Cond.code ({ cls := "java/lang/Character", name := "isValidCodePoint", desc := "(I)Z" } : Jvm.MethodName) prog_15_method_11_code (2 : Nat) (Option.some Jvm.ClassFile.FieldType.boolean)) ∈ fx_TB := fx_mem 580 (by decide +kernel) rfl
theorem tb_485 : (Jvm.Cond.methodLink "java/lang/StringUTF16" (157 : Nat) ({ cls := "java/lang/Character", name := "highSurrogate", desc := "(I)C" } : Jvm.MethodName)) ∈ fx_TB := fx_mem 581 (by decide +kernel) rfl
theorem tb_486 : (Jvm.Cond.static ({ cls := "java/lang/Character", name := "highSurrogate", desc := "(I)C" } : Jvm.MethodName)) ∈ fx_TB := fx_mem 582 (by decide +kernel) rfl
theorem tb_487 : (Jvm.Cond.code ({ cls := "java/lang/Character", name := "highSurrogate", desc := "(I)C" } : Jvm.MethodName) prog_15_method_28_code (1 : Nat) (Option.some Jvm.ClassFile.FieldType.char)) ∈ fx_TB := fx_mem 583 (by decide +kernel) rfl
theorem tb_488 : (Jvm.Cond.constant "java/lang/Character" (110 : Nat) (55232 : Int32)) ∈ fx_TB := fx_mem 584 (by decide +kernel) rfl
theorem tb_489 : (Jvm.Cond.methodLink "java/lang/StringUTF16" (161 : Nat) ({ cls := "java/lang/Character", name := "lowSurrogate", desc := "(I)C" } : Jvm.MethodName)) ∈ fx_TB := fx_mem 585 (by decide +kernel) rfl
theorem tb_490 : (Jvm.Cond.static ({ cls := "java/lang/Character", name := "lowSurrogate", desc := "(I)C" } : Jvm.MethodName)) ∈ fx_TB := fx_mem 586 (by decide +kernel) rfl
theorem tb_491 : (Jvm.Cond.code ({ cls := "java/lang/Character", name := "lowSurrogate", desc := "(I)C" } : Jvm.MethodName) prog_15_method_29_code (1 : Nat) (Option.some Jvm.ClassFile.FieldType.char)) ∈ fx_TB := fx_mem 587 (by decide +kernel) rfl
theorem tb_492 : (Jvm.Cond.constant "java/lang/Character" (76 : Nat) (56320 : Int32)) ∈ fx_TB := fx_mem 588 (by decide +kernel) rfl
theorem tb_493 : (Jvm.Cond.methodLink "FearLocks$LawReader" (81 : Nat) ({ cls := "FearLocks$Tape", name := "cannotStand", desc := "()Z" } : Jvm.MethodName)) ∈ fx_TB := fx_mem 589 (by decide +kernel) rfl
theorem tb_494 : (Jvm.Cond.methodLink "FearLocks$LawReader" (91 : Nat) ({ cls := "FearLocks$LawReader", name := "joinsFactors", desc := "(I)Z" } : Jvm.MethodName)) ∈ fx_TB := fx_mem 590 (by decide +kernel) rfl
theorem tb_495 : (Jvm.Cond.static ({ cls := "FearLocks$LawReader", name := "joinsFactors", desc := "(I)Z" } : Jvm.MethodName)) ∈ fx_TB := fx_mem 591 (by decide +kernel) rfl
theorem tb_496 : (Jvm.Cond.code ({ cls := "FearLocks$LawReader", name := "joinsFactors", desc := "(I)Z" } : Jvm.MethodName) prog_7_method_12_code (1 : Nat) (Option.some Jvm.ClassFile.FieldType.boolean)) ∈ fx_TB := fx_mem 592 (by decide +kernel) rfl
theorem tb_497 : (Jvm.Cond.methodLink "FearLocks$LawReader" (43 : Nat) ({ cls := "FearLocks$Law", name := "startCondition", desc := "()V" } : Jvm.MethodName)) ∈ fx_TB := fx_mem 593 (by decide +kernel) rfl
theorem tb_498 : (Jvm.Cond.instanceMethod ({ cls := "FearLocks$Law", name := "startCondition", desc := "()V" } : Jvm.MethodName)) ∈ fx_TB := fx_mem 594 (by decide +kernel) rfl
theorem tb_499 : (Jvm.Cond.selects "FearLocks$Law" ({ cls := "FearLocks$Law", name := "startCondition", desc := "()V" } : Jvm.MethodName) ({ cls := "FearLocks$Law", name := "startCondition", desc := "()V" } : Jvm.MethodName)) ∈ fx_TB := fx_mem 595 (by decide +kernel) rfl
theorem tb_500 : (Jvm.Cond.code ({ cls := "FearLocks$Law", name := "startCondition", desc := "()V" } : Jvm.MethodName) prog_6_method_4_code (1 : Nat) (Option.none : Option Jvm.ClassFile.FieldType)) ∈ fx_TB := fx_mem 596 (by decide +kernel) rfl
theorem tb_501 : (Jvm.Cond.methodLink "FearLocks$LawReader" (50 : Nat) ({ cls := "FearLocks$LawReader", name := "readAnyOf", desc := "(I)Z" } : Jvm.MethodName)) ∈ fx_TB := fx_mem 597 (by decide +kernel) rfl
theorem tb_502 : (Jvm.Cond.privateMethod ({ cls := "FearLocks$LawReader", name := "readAnyOf", desc := "(I)Z" } : Jvm.MethodName)) ∈ fx_TB := fx_mem 598 (by decide +kernel) rfl
theorem tb_503 : (Jvm.Cond.instanceMethod ({ cls := "FearLocks$LawReader", name := "readAnyOf", desc := "(I)Z" } : Jvm.MethodName)) ∈ fx_TB := fx_mem 599 (by decide +kernel) rfl
theorem tb_504 : (Jvm.Cond.code ({ cls := "FearLocks$LawReader", name := "readAnyOf", desc := "(I)Z" } : Jvm.MethodName) prog_7_method_4_code (3 : Nat) (Option.some Jvm.ClassFile.FieldType.boolean)) ∈ fx_TB := fx_mem 600 (by decide +kernel) rfl
theorem tb_505 : (Jvm.Cond.methodLink "FearLocks$LawReader" (56 : Nat) ({ cls := "FearLocks$LawReader", name := "readAllOf", desc := "(I)Z" } : Jvm.MethodName)) ∈ fx_TB := fx_mem 601 (by decide +kernel) rfl
theorem tb_506 : (Jvm.Cond.privateMethod ({ cls := "FearLocks$LawReader", name := "readAllOf", desc := "(I)Z" } : Jvm.MethodName)) ∈ fx_TB := fx_mem 602 (by decide +kernel) rfl
theorem tb_507 : (Jvm.Cond.instanceMethod ({ cls := "FearLocks$LawReader", name := "readAllOf", desc := "(I)Z" } : Jvm.MethodName)) ∈ fx_TB := fx_mem 603 (by decide +kernel) rfl
theorem tb_508 : (Jvm.Cond.code ({ cls := "FearLocks$LawReader", name := "readAllOf", desc := "(I)Z" } : Jvm.MethodName) prog_7_method_5_code (3 : Nat) (Option.some Jvm.ClassFile.FieldType.boolean)) ∈ fx_TB := fx_mem 604 (by decide +kernel) rfl
theorem tb_509 : (Jvm.Cond.methodLink "FearLocks$LawReader" (65 : Nat) ({ cls := "FearLocks$LawReader", name := "readTest", desc := "(I)Z" } : Jvm.MethodName)) ∈ fx_TB := fx_mem 605 (by decide +kernel) rfl
theorem tb_510 : (Jvm.Cond.privateMethod ({ cls := "FearLocks$LawReader", name := "readTest", desc := "(I)Z" } : Jvm.MethodName)) ∈ fx_TB := fx_mem 606 (by decide +kernel) rfl
theorem tb_511 : (Jvm.Cond.instanceMethod ({ cls := "FearLocks$LawReader", name := "readTest", desc := "(I)Z" } : Jvm.MethodName)) ∈ fx_TB := fx_mem 607 (by decide +kernel) rfl
theorem tb_512 : (Jvm.Cond.code ({ cls := "FearLocks$LawReader", name := "readTest", desc := "(I)Z" } : Jvm.MethodName) prog_7_method_6_code (3 : Nat) (Option.some Jvm.ClassFile.FieldType.boolean)) ∈ fx_TB := fx_mem 608 (by decide +kernel) rfl
theorem tb_513 : (Jvm.Cond.methodLink "FearLocks$LawReader" (68 : Nat) ({ cls := "FearLocks$LawReader", name := "readNegation", desc := "(I)Z" } : Jvm.MethodName)) ∈ fx_TB := fx_mem 609 (by decide +kernel) rfl
theorem tb_514 : (Jvm.Cond.privateMethod ({ cls := "FearLocks$LawReader", name := "readNegation", desc := "(I)Z" } : Jvm.MethodName)) ∈ fx_TB := fx_mem 610 (by decide +kernel) rfl
theorem tb_515 : (Jvm.Cond.instanceMethod ({ cls := "FearLocks$LawReader", name := "readNegation", desc := "(I)Z" } : Jvm.MethodName)) ∈ fx_TB := fx_mem 611 (by decide +kernel) rfl
theorem tb_516 : (Jvm.Cond.code ({ cls := "FearLocks$LawReader", name := "readNegation", desc := "(I)Z" } : Jvm.MethodName) prog_7_method_7_code (2 : Nat) (Option.some Jvm.ClassFile.FieldType.boolean)) ∈ fx_TB := fx_mem 612 (by decide +kernel) rfl
theorem tb_517 : (Jvm.Cond.methodLink "FearLocks$LawReader" (74 : Nat) ({ cls := "FearLocks$LawReader", name := "readComparison", desc := "(I)Z" } : Jvm.MethodName)) ∈ fx_TB := fx_mem 613 (by decide +kernel) rfl
theorem tb_518 : (Jvm.Cond.privateMethod ({ cls := "FearLocks$LawReader", name := "readComparison", desc := "(I)Z" } : Jvm.MethodName)) ∈ fx_TB := fx_mem 614 (by decide +kernel) rfl
theorem tb_519 : (Jvm.Cond.instanceMethod ({ cls := "FearLocks$LawReader", name := "readComparison", desc := "(I)Z" } : Jvm.MethodName)) ∈ fx_TB := fx_mem 615 (by decide +kernel) rfl
theorem tb_520 : (Jvm.Cond.code ({ cls := "FearLocks$LawReader", name := "readComparison", desc := "(I)Z" } : Jvm.MethodName) prog_7_method_9_code (3 : Nat) (Option.some Jvm.ClassFile.FieldType.boolean)) ∈ fx_TB := fx_mem 616 (by decide +kernel) rfl
theorem tb_521 : (Jvm.Cond.methodLink "FearLocks$LawReader" (62 : Nat) ({ cls := "FearLocks$Law", name := "leadHere", desc := "(I)V" } : Jvm.MethodName)) ∈ fx_TB := fx_mem 617 (by decide +kernel) rfl
theorem tb_522 : (Jvm.Cond.instanceMethod ({ cls := "FearLocks$Law", name := "leadHere", desc := "(I)V" } : Jvm.MethodName)) ∈ fx_TB := fx_mem 618 (by decide +kernel) rfl
theorem tb_523 : (Jvm.Cond.selects "FearLocks$Law" ({ cls := "FearLocks$Law", name := "leadHere", desc := "(I)V" } : Jvm.MethodName) ({ cls := "FearLocks$Law", name := "leadHere", desc := "(I)V" } : Jvm.MethodName)) ∈ fx_TB := fx_mem 619 (by decide +kernel) rfl
theorem tb_524 : (Jvm.Cond.code ({ cls := "FearLocks$Law", name := "leadHere", desc := "(I)V" } : Jvm.MethodName) prog_6_method_7_code (2 : Nat) (Option.none : Option Jvm.ClassFile.FieldType)) ∈ fx_TB := fx_mem 620 (by decide +kernel) rfl
theorem tb_525 : (Jvm.Cond.methodLink "FearLocks$LawReader" (53 : Nat) ({ cls := "FearLocks$Law", name := "endRule", desc := "()V" } : Jvm.MethodName)) ∈ fx_TB := fx_mem 621 (by decide +kernel) rfl
theorem tb_526 : (Jvm.Cond.instanceMethod ({ cls := "FearLocks$Law", name := "endRule", desc := "()V" } : Jvm.MethodName)) ∈ fx_TB := fx_mem 622 (by decide +kernel) rfl
theorem tb_527 : (Jvm.Cond.selects "FearLocks$Law" ({ cls := "FearLocks$Law", name := "endRule", desc := "()V" } : Jvm.MethodName) ({ cls := "FearLocks$Law", name := "endRule", desc := "()V" } : Jvm.MethodName)) ∈ fx_TB := fx_mem 623 (by decide +kernel) rfl
theorem tb_528 : (Jvm.Cond.code ({ cls := "FearLocks$Law", name := "endRule", desc := "()V" } : Jvm.MethodName) prog_6_method_5_code (1 : Nat) (Option.none : Option Jvm.ClassFile.FieldType)) ∈ fx_TB := fx_mem 624 (by decide +kernel) rfl
theorem tb_529 : (Jvm.Cond.methodLink "FearLocks$Law" (51 : Nat) ({ cls := "java/lang/Math", name := "min", desc := "(II)I" } : Jvm.MethodName)) ∈ fx_TB := fx_mem 625 (by decide +kernel) rfl
theorem tb_530 : (Jvm.Cond.selects "FearLocks$OrdersReader" ({ cls := "FearLocks$LinesReader", name := "readLine", desc := "()Z" } : Jvm.MethodName) ({ cls := "FearLocks$OrdersReader", name := "readLine", desc := "()Z" } : Jvm.MethodName)) ∈ fx_TB := fx_mem 626 (by decide +kernel) rfl
theorem tb_531 : (Jvm.Cond.instanceMethod ({ cls := "FearLocks$OrdersReader", name := "readLine", desc := "()Z" } : Jvm.MethodName)) ∈ fx_TB := fx_mem 627 (by decide +kernel) rfl
theorem tb_532 : (Jvm.Cond.code ({ cls := "FearLocks$OrdersReader", name := "readLine", desc := "()Z" } : Jvm.MethodName) prog_10_method_3_code (1 : Nat) (Option.some Jvm.ClassFile.FieldType.boolean)) ∈ fx_TB := fx_mem 628 (by decide +kernel) rfl
theorem tb_533 : (Jvm.Cond.methodLink "FearLocks$OrdersReader" (25 : Nat) ({ cls := "FearLocks$Tape", name := "now", desc := "()I" } : Jvm.MethodName)) ∈ fx_TB := fx_mem 629 (by decide +kernel) rfl
theorem tb_534 : (Jvm.Cond.methodLink "FearLocks$OrdersReader" (29 : Nat) ({ cls := "FearLocks$OrdersReader", name := "readDoor", desc := "()Z" } : Jvm.MethodName)) ∈ fx_TB := fx_mem 630 (by decide +kernel) rfl
theorem tb_535 : (Jvm.Cond.privateMethod ({ cls := "FearLocks$OrdersReader", name := "readDoor", desc := "()Z" } : Jvm.MethodName)) ∈ fx_TB := fx_mem 631 (by decide +kernel) rfl
theorem tb_536 : (Jvm.Cond.instanceMethod ({ cls := "FearLocks$OrdersReader", name := "readDoor", desc := "()Z" } : Jvm.MethodName)) ∈ fx_TB := fx_mem 632 (by decide +kernel) rfl
theorem tb_537 : (Jvm.Cond.instantiable "FearLocks$OrdersReader" (2 : Nat)) ∈ fx_TB := fx_mem 633 (by decide +kernel) rfl
theorem tb_538 : (Jvm.Cond.code ({ cls := "FearLocks$OrdersReader", name := "readDoor", desc := "()Z" } : Jvm.MethodName) prog_10_method_6_code (3 : Nat) (Option.some Jvm.ClassFile.FieldType.boolean)) ∈ fx_TB := fx_mem 634 (by decide +kernel) rfl
theorem tb_539 : (Jvm.Cond.methodLink "FearLocks$OrdersReader" (56 : Nat) ({ cls := "FearLocks$Tape", name := "readNumber", desc := "(I)I" } : Jvm.MethodName)) ∈ fx_TB := fx_mem 635 (by decide +kernel) rfl
theorem tb_540 : (Jvm.Cond.methodLink "FearLocks$OrdersReader" (46 : Nat) ({ cls := "FearLocks$Tape", name := "fail", desc := "(II)Z" } : Jvm.MethodName)) ∈ fx_TB := fx_mem 636 (by decide +kernel) rfl
theorem tb_541 : (Jvm.Cond.methodLink "FearLocks$OrdersReader" (63 : Nat) ({ cls := "FearLocks$City", name := "isDoor", desc := "(I)Z" } : Jvm.MethodName)) ∈ fx_TB := fx_mem 637 (by decide +kernel) rfl
theorem tb_542 : (Jvm.Cond.instanceMethod ({ cls := "FearLocks$City", name := "isDoor", desc := "(I)Z" } : Jvm.MethodName)) ∈ fx_TB := fx_mem 638 (by decide +kernel) rfl
theorem tb_543 : (Jvm.Cond.selects "FearLocks$City" ({ cls := "FearLocks$City", name := "isDoor", desc := "(I)Z" } : Jvm.MethodName) ({ cls := "FearLocks$City", name := "isDoor", desc := "(I)Z" } : Jvm.MethodName)) ∈ fx_TB := fx_mem 639 (by decide +kernel) rfl
theorem tb_544 : (Jvm.Cond.code ({ cls := "FearLocks$City", name := "isDoor", desc := "(I)Z" } : Jvm.MethodName) prog_2_method_3_code (2 : Nat) (Option.some Jvm.ClassFile.FieldType.boolean)) ∈ fx_TB := fx_mem 640 (by decide +kernel) rfl
theorem tb_545 : (Jvm.Cond.methodLinkNest "FearLocks$City" (42 : Nat) ({ cls := "FearLocks", name := "has", desc := "(II)Z" } : Jvm.MethodName) "FearLocks") ∈ fx_TB := fx_mem 641 (by decide +kernel) rfl
theorem tb_546 : (Jvm.Cond.methodLink "FearLocks$OrdersReader" (66 : Nat) ({ cls := "FearLocks$City", name := "dropDoor", desc := "(I)V" } : Jvm.MethodName)) ∈ fx_TB := fx_mem 642 (by decide +kernel) rfl
theorem tb_547 : (Jvm.Cond.instanceMethod ({ cls := "FearLocks$City", name := "dropDoor", desc := "(I)V" } : Jvm.MethodName)) ∈ fx_TB := fx_mem 643 (by decide +kernel) rfl
theorem tb_548 : (Jvm.Cond.selects "FearLocks$City" ({ cls := "FearLocks$City", name := "dropDoor", desc := "(I)V" } : Jvm.MethodName) ({ cls := "FearLocks$City", name := "dropDoor", desc := "(I)V" } : Jvm.MethodName)) ∈ fx_TB := fx_mem 644 (by decide +kernel) rfl
theorem tb_549 : (Jvm.Cond.code ({ cls := "FearLocks$City", name := "dropDoor", desc := "(I)V" } : Jvm.MethodName) prog_2_method_17_code (2 : Nat) (Option.none : Option Jvm.ClassFile.FieldType)) ∈ fx_TB := fx_mem 645 (by decide +kernel) rfl
theorem tb_550 : (Jvm.Cond.methodLink "FearLocks$OrdersReader" (70 : Nat) ({ cls := "FearLocks$Tape", name := "expect", desc := "(I)Z" } : Jvm.MethodName)) ∈ fx_TB := fx_mem 646 (by decide +kernel) rfl
theorem tb_551 : (Jvm.Cond.methodLink "FearLocks$OrdersReader" (73 : Nat) ({ cls := "FearLocks$OrdersReader", name := "readLock", desc := "(I)Z" } : Jvm.MethodName)) ∈ fx_TB := fx_mem 647 (by decide +kernel) rfl
theorem tb_552 : (Jvm.Cond.privateMethod ({ cls := "FearLocks$OrdersReader", name := "readLock", desc := "(I)Z" } : Jvm.MethodName)) ∈ fx_TB := fx_mem 648 (by decide +kernel) rfl
theorem tb_553 : (Jvm.Cond.instanceMethod ({ cls := "FearLocks$OrdersReader", name := "readLock", desc := "(I)Z" } : Jvm.MethodName)) ∈ fx_TB := fx_mem 649 (by decide +kernel) rfl
theorem tb_554 : (Jvm.Cond.code ({ cls := "FearLocks$OrdersReader", name := "readLock", desc := "(I)Z" } : Jvm.MethodName) prog_10_method_7_code (4 : Nat) (Option.some Jvm.ClassFile.FieldType.boolean)) ∈ fx_TB := fx_mem 650 (by decide +kernel) rfl
theorem tb_555 : (Jvm.Cond.methodLink "FearLocks$OrdersReader" (76 : Nat) ({ cls := "FearLocks$Tape", name := "isFear", desc := "(I)Z" } : Jvm.MethodName)) ∈ fx_TB := fx_mem 651 (by decide +kernel) rfl
theorem tb_556 : (Jvm.Cond.methodLink "FearLocks$OrdersReader" (39 : Nat) ({ cls := "FearLocks$Tape", name := "cannotStand", desc := "()Z" } : Jvm.MethodName)) ∈ fx_TB := fx_mem 652 (by decide +kernel) rfl
theorem tb_557 : (Jvm.Cond.methodLink "FearLocks$OrdersReader" (79 : Nat) ({ cls := "FearLocks$City", name := "tellDoor", desc := "(III)V" } : Jvm.MethodName)) ∈ fx_TB := fx_mem 653 (by decide +kernel) rfl
theorem tb_558 : (Jvm.Cond.instanceMethod ({ cls := "FearLocks$City", name := "tellDoor", desc := "(III)V" } : Jvm.MethodName)) ∈ fx_TB := fx_mem 654 (by decide +kernel) rfl
theorem tb_559 : (Jvm.Cond.selects "FearLocks$City" ({ cls := "FearLocks$City", name := "tellDoor", desc := "(III)V" } : Jvm.MethodName) ({ cls := "FearLocks$City", name := "tellDoor", desc := "(III)V" } : Jvm.MethodName)) ∈ fx_TB := fx_mem 655 (by decide +kernel) rfl
theorem tb_560 : (Jvm.Cond.code ({ cls := "FearLocks$City", name := "tellDoor", desc := "(III)V" } : Jvm.MethodName) prog_2_method_16_code (4 : Nat) (Option.none : Option Jvm.ClassFile.FieldType)) ∈ fx_TB := fx_mem 656 (by decide +kernel) rfl
theorem tb_561 : (Jvm.Cond.methodLink "FearLocks$OrdersReader" (33 : Nat) ({ cls := "FearLocks$OrdersReader", name := "readAcquaintance", desc := "()Z" } : Jvm.MethodName)) ∈ fx_TB := fx_mem 657 (by decide +kernel) rfl
theorem tb_562 : (Jvm.Cond.privateMethod ({ cls := "FearLocks$OrdersReader", name := "readAcquaintance", desc := "()Z" } : Jvm.MethodName)) ∈ fx_TB := fx_mem 658 (by decide +kernel) rfl
theorem tb_563 : (Jvm.Cond.instanceMethod ({ cls := "FearLocks$OrdersReader", name := "readAcquaintance", desc := "()Z" } : Jvm.MethodName)) ∈ fx_TB := fx_mem 659 (by decide +kernel) rfl
theorem tb_564 : (Jvm.Cond.code ({ cls := "FearLocks$OrdersReader", name := "readAcquaintance", desc := "()Z" } : Jvm.MethodName) prog_10_method_4_code (5 : Nat) (Option.some Jvm.ClassFile.FieldType.boolean)) ∈ fx_TB := fx_mem 660 (by decide +kernel) rfl
theorem tb_565 : (Jvm.Cond.methodLink "FearLocks$OrdersReader" (36 : Nat) ({ cls := "FearLocks$OrdersReader", name := "readPerson", desc := "()I" } : Jvm.MethodName)) ∈ fx_TB := fx_mem 661 (by decide +kernel) rfl
theorem tb_566 : (Jvm.Cond.privateMethod ({ cls := "FearLocks$OrdersReader", name := "readPerson", desc := "()I" } : Jvm.MethodName)) ∈ fx_TB := fx_mem 662 (by decide +kernel) rfl
theorem tb_567 : (Jvm.Cond.instanceMethod ({ cls := "FearLocks$OrdersReader", name := "readPerson", desc := "()I" } : Jvm.MethodName)) ∈ fx_TB := fx_mem 663 (by decide +kernel) rfl
theorem tb_568 : (Jvm.Cond.code ({ cls := "FearLocks$OrdersReader", name := "readPerson", desc := "()I" } : Jvm.MethodName) prog_10_method_5_code (3 : Nat) (Option.some Jvm.ClassFile.FieldType.int)) ∈ fx_TB := fx_mem 664 (by decide +kernel) rfl
theorem tb_569 : (Jvm.Cond.methodLink "FearLocks$OrdersReader" (60 : Nat) ({ cls := "FearLocks$City", name := "isPerson", desc := "(I)Z" } : Jvm.MethodName)) ∈ fx_TB := fx_mem 665 (by decide +kernel) rfl
theorem tb_570 : (Jvm.Cond.instanceMethod ({ cls := "FearLocks$City", name := "isPerson", desc := "(I)Z" } : Jvm.MethodName)) ∈ fx_TB := fx_mem 666 (by decide +kernel) rfl
theorem tb_571 : (Jvm.Cond.selects "FearLocks$City" ({ cls := "FearLocks$City", name := "isPerson", desc := "(I)Z" } : Jvm.MethodName) ({ cls := "FearLocks$City", name := "isPerson", desc := "(I)Z" } : Jvm.MethodName)) ∈ fx_TB := fx_mem 667 (by decide +kernel) rfl
theorem tb_572 : (Jvm.Cond.code ({ cls := "FearLocks$City", name := "isPerson", desc := "(I)Z" } : Jvm.MethodName) prog_2_method_2_code (2 : Nat) (Option.some Jvm.ClassFile.FieldType.boolean)) ∈ fx_TB := fx_mem 668 (by decide +kernel) rfl
theorem tb_573 : (Jvm.Cond.methodLink "FearLocks$OrdersReader" (50 : Nat) ({ cls := "FearLocks$City", name := "acquaint", desc := "(IIZ)V" } : Jvm.MethodName)) ∈ fx_TB := fx_mem 669 (by decide +kernel) rfl
theorem tb_574 : (Jvm.Cond.instanceMethod ({ cls := "FearLocks$City", name := "acquaint", desc := "(IIZ)V" } : Jvm.MethodName)) ∈ fx_TB := fx_mem 670 (by decide +kernel) rfl
theorem tb_575 : (Jvm.Cond.selects "FearLocks$City" ({ cls := "FearLocks$City", name := "acquaint", desc := "(IIZ)V" } : Jvm.MethodName) ({ cls := "FearLocks$City", name := "acquaint", desc := "(IIZ)V" } : Jvm.MethodName)) ∈ fx_TB := fx_mem 671 (by decide +kernel) rfl
theorem tb_576 : (Jvm.Cond.code ({ cls := "FearLocks$City", name := "acquaint", desc := "(IIZ)V" } : Jvm.MethodName) prog_2_method_14_code (4 : Nat) (Option.none : Option Jvm.ClassFile.FieldType)) ∈ fx_TB := fx_mem 672 (by decide +kernel) rfl
theorem tb_577 : (Jvm.Cond.methodLink "FearLocksLaw" (23 : Nat) ({ cls := "FearLocks", name := "dreads", desc := "(II)I" } : Jvm.MethodName)) ∈ fx_TB := fx_mem 673 (by decide +kernel) rfl
theorem tb_578 : (Jvm.Cond.instanceMethod ({ cls := "FearLocks", name := "dreads", desc := "(II)I" } : Jvm.MethodName)) ∈ fx_TB := fx_mem 674 (by decide +kernel) rfl
theorem tb_579 : (Jvm.Cond.selects "FearLocks" ({ cls := "FearLocks", name := "dreads", desc := "(II)I" } : Jvm.MethodName) ({ cls := "FearLocks", name := "dreads", desc := "(II)I" } : Jvm.MethodName)) ∈ fx_TB := fx_mem 675 (by decide +kernel) rfl
theorem tb_580 : (Jvm.Cond.code ({ cls := "FearLocks", name := "dreads", desc := "(II)I" } : Jvm.MethodName) prog_1_method_4_code (4 : Nat) (Option.some Jvm.ClassFile.FieldType.int)) ∈ fx_TB := fx_mem 676 (by decide +kernel) rfl
theorem tb_581 : (Jvm.Cond.methodLink "FearLocks" (98 : Nat) ({ cls := "FearLocks$City", name := "copyFrom", desc := "(LFearLocks$City;)V" } : Jvm.MethodName)) ∈ fx_TB := fx_mem 677 (by decide +kernel) rfl
theorem tb_582 : (Jvm.Cond.instanceMethod ({ cls := "FearLocks$City", name := "copyFrom", desc := "(LFearLocks$City;)V" } : Jvm.MethodName)) ∈ fx_TB := fx_mem 678 (by decide +kernel) rfl
theorem tb_583 : (Jvm.Cond.selects "FearLocks$City" ({ cls := "FearLocks$City", name := "copyFrom", desc := "(LFearLocks$City;)V" } : Jvm.MethodName) ({ cls := "FearLocks$City", name := "copyFrom", desc := "(LFearLocks$City;)V" } : Jvm.MethodName)) ∈ fx_TB := fx_mem 679 (by decide +kernel) rfl
theorem tb_584 : (Jvm.Cond.code ({ cls := "FearLocks$City", name := "copyFrom", desc := "(LFearLocks$City;)V" } : Jvm.MethodName) prog_2_method_24_code (3 : Nat) (Option.none : Option Jvm.ClassFile.FieldType)) ∈ fx_TB := fx_mem 680 (by decide +kernel) rfl
theorem tb_585 : (Jvm.Cond.methodLink "FearLocks$City" (86 : Nat) ({ cls := "FearLocks$City", name := "copyDreads", desc := "(LFearLocks$City;)V" } : Jvm.MethodName)) ∈ fx_TB := fx_mem 681 (by decide +kernel) rfl
theorem tb_586 : (Jvm.Cond.instanceMethod ({ cls := "FearLocks$City", name := "copyDreads", desc := "(LFearLocks$City;)V" } : Jvm.MethodName)) ∈ fx_TB := fx_mem 682 (by decide +kernel) rfl
theorem tb_587 : (Jvm.Cond.selects "FearLocks$City" ({ cls := "FearLocks$City", name := "copyDreads", desc := "(LFearLocks$City;)V" } : Jvm.MethodName) ({ cls := "FearLocks$City", name := "copyDreads", desc := "(LFearLocks$City;)V" } : Jvm.MethodName)) ∈ fx_TB := fx_mem 683 (by decide +kernel) rfl
theorem tb_588 : (Jvm.Cond.code ({ cls := "FearLocks$City", name := "copyDreads", desc := "(LFearLocks$City;)V" } : Jvm.MethodName) prog_2_method_25_code (4 : Nat) (Option.none : Option Jvm.ClassFile.FieldType)) ∈ fx_TB := fx_mem 684 (by decide +kernel) rfl
theorem tb_589 : (Jvm.Cond.classLink "FearLocks" (102 : Nat) "FearLocks$DreadsReader") ∈ fx_TB := fx_mem 685 (by decide +kernel) rfl
theorem tb_590 : (Jvm.Cond.methodLink "FearLocks" (104 : Nat) ({ cls := "FearLocks$DreadsReader", name := "<init>", desc := "(LFearLocks$Tape;LFearLocks$City;I)V" } : Jvm.MethodName)) ∈ fx_TB := fx_mem 686 (by decide +kernel) rfl
theorem tb_591 : (Jvm.Cond.instanceMethod ({ cls := "FearLocks$DreadsReader", name := "<init>", desc := "(LFearLocks$Tape;LFearLocks$City;I)V" } : Jvm.MethodName)) ∈ fx_TB := fx_mem 687 (by decide +kernel) rfl
theorem tb_592 : (Jvm.Cond.code ({ cls := "FearLocks$DreadsReader", name := "<init>", desc := "(LFearLocks$Tape;LFearLocks$City;I)V" } : Jvm.MethodName) prog_4_method_1_code (4 : Nat) (Option.none : Option Jvm.ClassFile.FieldType)) ∈ fx_TB := fx_mem 688 (by decide +kernel) rfl
theorem tb_593 : (Jvm.Cond.methodLink "FearLocks$DreadsReader" (3 : Nat) ({ cls := "FearLocks$LinesReader", name := "<init>", desc := "(LFearLocks$Tape;)V" } : Jvm.MethodName)) ∈ fx_TB := fx_mem 689 (by decide +kernel) rfl
theorem tb_594 : (Jvm.Cond.fieldLink "FearLocks$DreadsReader" (9 : Nat) "FearLocks$DreadsReader" "city" "LFearLocks$City;") ∈ fx_TB := fx_mem 690 (by decide +kernel) rfl
theorem tb_595 : (Jvm.Cond.fieldLink "FearLocks$DreadsReader" (15 : Nat) "FearLocks$DreadsReader" "person" "I") ∈ fx_TB := fx_mem 691 (by decide +kernel) rfl
theorem tb_596 : (Jvm.Cond.laysFinal "FearLocks$DreadsReader" "FearLocks$DreadsReader" "city" "LFearLocks$City;") ∈ fx_TB := fx_mem 692 (by decide +kernel) rfl
theorem tb_597 : (Jvm.Cond.soleField "FearLocks$DreadsReader" "city") ∈ fx_TB := fx_mem 693 (by decide +kernel) rfl
theorem tb_598 : (Jvm.Cond.laysFinal "FearLocks$DreadsReader" "FearLocks$DreadsReader" "person" "I") ∈ fx_TB := fx_mem 694 (by decide +kernel) rfl
theorem tb_599 : (Jvm.Cond.soleField "FearLocks$DreadsReader" "person") ∈ fx_TB := fx_mem 695 (by decide +kernel) rfl
theorem tb_600 : (Jvm.Cond.laysFinal "FearLocks$DreadsReader" "FearLocks$LinesReader" "text" "LFearLocks$Tape;") ∈ fx_TB := fx_mem 696 (by decide +kernel) rfl
theorem tb_601 : (Jvm.Cond.superclass "FearLocks$DreadsReader" "FearLocks$LinesReader") ∈ fx_TB := fx_mem 697 (by decide +kernel) rfl
theorem tb_602 : (Jvm.Cond.methodLink "FearLocks" (107 : Nat) ({ cls := "FearLocks$DreadsReader", name := "readLines", desc := "(I)I" } : Jvm.MethodName)) ∈ fx_TB := fx_mem 698 (by decide +kernel) rfl
theorem tb_603 : (Jvm.Cond.sameMethod "FearLocks$DreadsReader" "FearLocks$LinesReader" "readLines" "(I)I") ∈ fx_TB := fx_mem 699 (by decide +kernel) rfl
theorem tb_604 : (Jvm.Cond.selects "FearLocks$DreadsReader" ({ cls := "FearLocks$DreadsReader", name := "readLines", desc := "(I)I" } : Jvm.MethodName) ({ cls := "FearLocks$LinesReader", name := "readLines", desc := "(I)I" } : Jvm.MethodName)) ∈ fx_TB := fx_mem 700 (by decide +kernel) rfl
theorem tb_605 : (Jvm.Cond.methodLink "FearLocksLaw" (28 : Nat) ({ cls := "FearLocks", name := "orders", desc := "(I)I" } : Jvm.MethodName)) ∈ fx_TB := fx_mem 701 (by decide +kernel) rfl
theorem tb_606 : (Jvm.Cond.instanceMethod ({ cls := "FearLocks", name := "orders", desc := "(I)I" } : Jvm.MethodName)) ∈ fx_TB := fx_mem 702 (by decide +kernel) rfl
theorem tb_607 : (Jvm.Cond.selects "FearLocks" ({ cls := "FearLocks", name := "orders", desc := "(I)I" } : Jvm.MethodName) ({ cls := "FearLocks", name := "orders", desc := "(I)I" } : Jvm.MethodName)) ∈ fx_TB := fx_mem 703 (by decide +kernel) rfl
theorem tb_608 : (Jvm.Cond.code ({ cls := "FearLocks", name := "orders", desc := "(I)I" } : Jvm.MethodName) prog_1_method_5_code (3 : Nat) (Option.some Jvm.ClassFile.FieldType.int)) ∈ fx_TB := fx_mem 704 (by decide +kernel) rfl
theorem tb_609 : (Jvm.Cond.classLink "FearLocks" (108 : Nat) "FearLocks$OrdersReader") ∈ fx_TB := fx_mem 705 (by decide +kernel) rfl
theorem tb_610 : (Jvm.Cond.methodLink "FearLocks" (110 : Nat) ({ cls := "FearLocks$OrdersReader", name := "<init>", desc := "(LFearLocks$Tape;LFearLocks$City;)V" } : Jvm.MethodName)) ∈ fx_TB := fx_mem 706 (by decide +kernel) rfl
theorem tb_611 : (Jvm.Cond.instanceMethod ({ cls := "FearLocks$OrdersReader", name := "<init>", desc := "(LFearLocks$Tape;LFearLocks$City;)V" } : Jvm.MethodName)) ∈ fx_TB := fx_mem 707 (by decide +kernel) rfl
theorem tb_612 : (Jvm.Cond.code ({ cls := "FearLocks$OrdersReader", name := "<init>", desc := "(LFearLocks$Tape;LFearLocks$City;)V" } : Jvm.MethodName) prog_10_method_1_code (3 : Nat) (Option.none : Option Jvm.ClassFile.FieldType)) ∈ fx_TB := fx_mem 708 (by decide +kernel) rfl
theorem tb_613 : (Jvm.Cond.methodLink "FearLocks$OrdersReader" (3 : Nat) ({ cls := "FearLocks$LinesReader", name := "<init>", desc := "(LFearLocks$Tape;)V" } : Jvm.MethodName)) ∈ fx_TB := fx_mem 709 (by decide +kernel) rfl
theorem tb_614 : (Jvm.Cond.fieldLink "FearLocks$OrdersReader" (9 : Nat) "FearLocks$OrdersReader" "city" "LFearLocks$City;") ∈ fx_TB := fx_mem 710 (by decide +kernel) rfl
theorem tb_615 : (Jvm.Cond.laysFinal "FearLocks$OrdersReader" "FearLocks$OrdersReader" "city" "LFearLocks$City;") ∈ fx_TB := fx_mem 711 (by decide +kernel) rfl
theorem tb_616 : (Jvm.Cond.soleField "FearLocks$OrdersReader" "city") ∈ fx_TB := fx_mem 712 (by decide +kernel) rfl
theorem tb_617 : (Jvm.Cond.laysFinal "FearLocks$OrdersReader" "FearLocks$LinesReader" "text" "LFearLocks$Tape;") ∈ fx_TB := fx_mem 713 (by decide +kernel) rfl
theorem tb_618 : (Jvm.Cond.superclass "FearLocks$OrdersReader" "FearLocks$LinesReader") ∈ fx_TB := fx_mem 714 (by decide +kernel) rfl
theorem tb_619 : (Jvm.Cond.methodLink "FearLocks" (113 : Nat) ({ cls := "FearLocks$OrdersReader", name := "readLines", desc := "(I)I" } : Jvm.MethodName)) ∈ fx_TB := fx_mem 715 (by decide +kernel) rfl
theorem tb_620 : (Jvm.Cond.sameMethod "FearLocks$OrdersReader" "FearLocks$LinesReader" "readLines" "(I)I") ∈ fx_TB := fx_mem 716 (by decide +kernel) rfl
theorem tb_621 : (Jvm.Cond.selects "FearLocks$OrdersReader" ({ cls := "FearLocks$OrdersReader", name := "readLines", desc := "(I)I" } : Jvm.MethodName) ({ cls := "FearLocks$LinesReader", name := "readLines", desc := "(I)I" } : Jvm.MethodName)) ∈ fx_TB := fx_mem 717 (by decide +kernel) rfl
theorem tb_622 : (Jvm.Cond.methodLink "FearLocksLaw" (32 : Nat) ({ cls := "FearLocks", name := "nights", desc := "(I)I" } : Jvm.MethodName)) ∈ fx_TB := fx_mem 718 (by decide +kernel) rfl
theorem tb_623 : (Jvm.Cond.instanceMethod ({ cls := "FearLocks", name := "nights", desc := "(I)I" } : Jvm.MethodName)) ∈ fx_TB := fx_mem 719 (by decide +kernel) rfl
theorem tb_624 : (Jvm.Cond.selects "FearLocks" ({ cls := "FearLocks", name := "nights", desc := "(I)I" } : Jvm.MethodName) ({ cls := "FearLocks", name := "nights", desc := "(I)I" } : Jvm.MethodName)) ∈ fx_TB := fx_mem 720 (by decide +kernel) rfl
theorem tb_625 : (Jvm.Cond.code ({ cls := "FearLocks", name := "nights", desc := "(I)I" } : Jvm.MethodName) prog_1_method_6_code (2 : Nat) (Option.some Jvm.ClassFile.FieldType.int)) ∈ fx_TB := fx_mem 721 (by decide +kernel) rfl
theorem tb_626 : (Jvm.Cond.methodLink "FearLocks" (114 : Nat) ({ cls := "FearLocks$Nightfall", name := "pass", desc := "(LFearLocks$City;LFearLocks$Law;I)V" } : Jvm.MethodName)) ∈ fx_TB := fx_mem 722 (by decide +kernel) rfl
theorem tb_627 : (Jvm.Cond.instanceMethod ({ cls := "FearLocks$Nightfall", name := "pass", desc := "(LFearLocks$City;LFearLocks$Law;I)V" } : Jvm.MethodName)) ∈ fx_TB := fx_mem 723 (by decide +kernel) rfl
theorem tb_628 : (Jvm.Cond.selects "FearLocks$Nightfall" ({ cls := "FearLocks$Nightfall", name := "pass", desc := "(LFearLocks$City;LFearLocks$Law;I)V" } : Jvm.MethodName) ({ cls := "FearLocks$Nightfall", name := "pass", desc := "(LFearLocks$City;LFearLocks$Law;I)V" } : Jvm.MethodName)) ∈ fx_TB := fx_mem 724 (by decide +kernel) rfl
theorem tb_629 : (Jvm.Cond.code ({ cls := "FearLocks$Nightfall", name := "pass", desc := "(LFearLocks$City;LFearLocks$Law;I)V" } : Jvm.MethodName) prog_9_method_2_code (6 : Nat) (Option.none : Option Jvm.ClassFile.FieldType)) ∈ fx_TB := fx_mem 725 (by decide +kernel) rfl
theorem tb_630 : (Jvm.Cond.methodLink "FearLocks$Nightfall" (28 : Nat) ({ cls := "FearLocks$City", name := "isPerson", desc := "(I)Z" } : Jvm.MethodName)) ∈ fx_TB := fx_mem 726 (by decide +kernel) rfl
theorem tb_631 : (Jvm.Cond.methodLink "FearLocks$Nightfall" (32 : Nat) ({ cls := "FearLocks$Nightfall", name := "goOut", desc := "(LFearLocks$City;LFearLocks$Law;I)V" } : Jvm.MethodName)) ∈ fx_TB := fx_mem 727 (by decide +kernel) rfl
theorem tb_632 : (Jvm.Cond.privateMethod ({ cls := "FearLocks$Nightfall", name := "goOut", desc := "(LFearLocks$City;LFearLocks$Law;I)V" } : Jvm.MethodName)) ∈ fx_TB := fx_mem 728 (by decide +kernel) rfl
theorem tb_633 : (Jvm.Cond.instanceMethod ({ cls := "FearLocks$Nightfall", name := "goOut", desc := "(LFearLocks$City;LFearLocks$Law;I)V" } : Jvm.MethodName)) ∈ fx_TB := fx_mem 729 (by decide +kernel) rfl
theorem tb_634 : (Jvm.Cond.code ({ cls := "FearLocks$Nightfall", name := "goOut", desc := "(LFearLocks$City;LFearLocks$Law;I)V" } : Jvm.MethodName) prog_9_method_3_code (5 : Nat) (Option.none : Option Jvm.ClassFile.FieldType)) ∈ fx_TB := fx_mem 730 (by decide +kernel) rfl
theorem tb_635 : (Jvm.Cond.methodLink "FearLocks$Nightfall" (40 : Nat) ({ cls := "FearLocks$City", name := "greatestDread", desc := "(I)I" } : Jvm.MethodName)) ∈ fx_TB := fx_mem 731 (by decide +kernel) rfl
theorem tb_636 : (Jvm.Cond.instanceMethod ({ cls := "FearLocks$City", name := "greatestDread", desc := "(I)I" } : Jvm.MethodName)) ∈ fx_TB := fx_mem 732 (by decide +kernel) rfl
theorem tb_637 : (Jvm.Cond.selects "FearLocks$City" ({ cls := "FearLocks$City", name := "greatestDread", desc := "(I)I" } : Jvm.MethodName) ({ cls := "FearLocks$City", name := "greatestDread", desc := "(I)I" } : Jvm.MethodName)) ∈ fx_TB := fx_mem 733 (by decide +kernel) rfl
theorem tb_638 : (Jvm.Cond.code ({ cls := "FearLocks$City", name := "greatestDread", desc := "(I)I" } : Jvm.MethodName) prog_2_method_6_code (4 : Nat) (Option.some Jvm.ClassFile.FieldType.int)) ∈ fx_TB := fx_mem 734 (by decide +kernel) rfl
theorem tb_639 : (Jvm.Cond.methodLink "FearLocks$City" (50 : Nat) ({ cls := "FearLocks$City", name := "dreadOf", desc := "(II)I" } : Jvm.MethodName)) ∈ fx_TB := fx_mem 735 (by decide +kernel) rfl
theorem tb_640 : (Jvm.Cond.methodLink "FearLocks$City" (54 : Nat) ({ cls := "java/lang/Math", name := "max", desc := "(II)I" } : Jvm.MethodName)) ∈ fx_TB := fx_mem 736 (by decide +kernel) rfl
theorem tb_641 : (Jvm.Cond.methodLink "FearLocks$Nightfall" (44 : Nat) ({ cls := "FearLocks$City", name := "knownTo", desc := "(I)I" } : Jvm.MethodName)) ∈ fx_TB := fx_mem 737 (by decide +kernel) rfl
theorem tb_642 : (Jvm.Cond.instanceMethod ({ cls := "FearLocks$City", name := "knownTo", desc := "(I)I" } : Jvm.MethodName)) ∈ fx_TB := fx_mem 738 (by decide +kernel) rfl
theorem tb_643 : (Jvm.Cond.selects "FearLocks$City" ({ cls := "FearLocks$City", name := "knownTo", desc := "(I)I" } : Jvm.MethodName) ({ cls := "FearLocks$City", name := "knownTo", desc := "(I)I" } : Jvm.MethodName)) ∈ fx_TB := fx_mem 739 (by decide +kernel) rfl
theorem tb_644 : (Jvm.Cond.code ({ cls := "FearLocks$City", name := "knownTo", desc := "(I)I" } : Jvm.MethodName) prog_2_method_13_code (2 : Nat) (Option.some Jvm.ClassFile.FieldType.int)) ∈ fx_TB := fx_mem 740 (by decide +kernel) rfl
theorem tb_645 : (Jvm.Cond.methodLink "FearLocks$Nightfall" (47 : Nat) ({ cls := "java/lang/Integer", name := "bitCount", desc := "(I)I" } : Jvm.MethodName)) ∈ fx_TB := fx_mem 741 (by decide +kernel) rfl
theorem tb_646 : (Jvm.Cond.static ({ cls := "java/lang/Integer", name := "bitCount", desc := "(I)I" } : Jvm.MethodName)) ∈ fx_TB := fx_mem 742 (by decide +kernel) rfl
theorem tb_647 : (Jvm.Cond.code ({ cls := "java/lang/Integer", name := "bitCount", desc := "(I)I" } : Jvm.MethodName) prog_16_method_49_code (1 : Nat) (Option.some Jvm.ClassFile.FieldType.int)) ∈ fx_TB := fx_mem 743 (by decide +kernel) rfl
theorem tb_648 : (Jvm.Cond.constant "java/lang/Integer" (265 : Nat) (1431655765 : Int32)) ∈ fx_TB := fx_mem 744 (by decide +kernel) rfl
theorem tb_649 : (Jvm.Cond.constant "java/lang/Integer" (266 : Nat) (858993459 : Int32)) ∈ fx_TB := fx_mem 745 (by decide +kernel) rfl
theorem tb_650 : (Jvm.Cond.constant "java/lang/Integer" (267 : Nat) (252645135 : Int32)) ∈ fx_TB := fx_mem 746 (by decide +kernel) rfl
theorem tb_651 : (Jvm.Cond.methodLink "FearLocks$Nightfall" (52 : Nat) ({ cls := "FearLocks$Law", name := "meanPerson", desc := "(III)V" } : Jvm.MethodName)) ∈ fx_TB := fx_mem 747 (by decide +kernel) rfl
theorem tb_652 : (Jvm.Cond.instanceMethod ({ cls := "FearLocks$Law", name := "meanPerson", desc := "(III)V" } : Jvm.MethodName)) ∈ fx_TB := fx_mem 748 (by decide +kernel) rfl
theorem tb_653 : (Jvm.Cond.selects "FearLocks$Law" ({ cls := "FearLocks$Law", name := "meanPerson", desc := "(III)V" } : Jvm.MethodName) ({ cls := "FearLocks$Law", name := "meanPerson", desc := "(III)V" } : Jvm.MethodName)) ∈ fx_TB := fx_mem 749 (by decide +kernel) rfl
theorem tb_654 : (Jvm.Cond.code ({ cls := "FearLocks$Law", name := "meanPerson", desc := "(III)V" } : Jvm.MethodName) prog_6_method_8_code (4 : Nat) (Option.none : Option Jvm.ClassFile.FieldType)) ∈ fx_TB := fx_mem 750 (by decide +kernel) rfl
theorem tb_655 : (Jvm.Cond.methodLink "FearLocks$Nightfall" (58 : Nat) ({ cls := "FearLocks$Law", name := "meanOther", desc := "(III)V" } : Jvm.MethodName)) ∈ fx_TB := fx_mem 751 (by decide +kernel) rfl
theorem tb_656 : (Jvm.Cond.instanceMethod ({ cls := "FearLocks$Law", name := "meanOther", desc := "(III)V" } : Jvm.MethodName)) ∈ fx_TB := fx_mem 752 (by decide +kernel) rfl
theorem tb_657 : (Jvm.Cond.selects "FearLocks$Law" ({ cls := "FearLocks$Law", name := "meanOther", desc := "(III)V" } : Jvm.MethodName) ({ cls := "FearLocks$Law", name := "meanOther", desc := "(III)V" } : Jvm.MethodName)) ∈ fx_TB := fx_mem 753 (by decide +kernel) rfl
theorem tb_658 : (Jvm.Cond.code ({ cls := "FearLocks$Law", name := "meanOther", desc := "(III)V" } : Jvm.MethodName) prog_6_method_9_code (4 : Nat) (Option.none : Option Jvm.ClassFile.FieldType)) ∈ fx_TB := fx_mem 754 (by decide +kernel) rfl
theorem tb_659 : (Jvm.Cond.methodLink "FearLocks$Nightfall" (61 : Nat) ({ cls := "FearLocks$Law", name := "meanDoor", desc := "(II)V" } : Jvm.MethodName)) ∈ fx_TB := fx_mem 755 (by decide +kernel) rfl
theorem tb_660 : (Jvm.Cond.instanceMethod ({ cls := "FearLocks$Law", name := "meanDoor", desc := "(II)V" } : Jvm.MethodName)) ∈ fx_TB := fx_mem 756 (by decide +kernel) rfl
theorem tb_661 : (Jvm.Cond.selects "FearLocks$Law" ({ cls := "FearLocks$Law", name := "meanDoor", desc := "(II)V" } : Jvm.MethodName) ({ cls := "FearLocks$Law", name := "meanDoor", desc := "(II)V" } : Jvm.MethodName)) ∈ fx_TB := fx_mem 757 (by decide +kernel) rfl
theorem tb_662 : (Jvm.Cond.code ({ cls := "FearLocks$Law", name := "meanDoor", desc := "(II)V" } : Jvm.MethodName) prog_6_method_10_code (3 : Nat) (Option.none : Option Jvm.ClassFile.FieldType)) ∈ fx_TB := fx_mem 758 (by decide +kernel) rfl
theorem tb_663 : (Jvm.Cond.methodLink "FearLocks$Nightfall" (65 : Nat) ({ cls := "FearLocks$City", name := "draw", desc := "()I" } : Jvm.MethodName)) ∈ fx_TB := fx_mem 759 (by decide +kernel) rfl
theorem tb_664 : (Jvm.Cond.instanceMethod ({ cls := "FearLocks$City", name := "draw", desc := "()I" } : Jvm.MethodName)) ∈ fx_TB := fx_mem 760 (by decide +kernel) rfl
theorem tb_665 : (Jvm.Cond.selects "FearLocks$City" ({ cls := "FearLocks$City", name := "draw", desc := "()I" } : Jvm.MethodName) ({ cls := "FearLocks$City", name := "draw", desc := "()I" } : Jvm.MethodName)) ∈ fx_TB := fx_mem 761 (by decide +kernel) rfl
theorem tb_666 : (Jvm.Cond.code ({ cls := "FearLocks$City", name := "draw", desc := "()I" } : Jvm.MethodName) prog_2_method_23_code (1 : Nat) (Option.some Jvm.ClassFile.FieldType.int)) ∈ fx_TB := fx_mem 762 (by decide +kernel) rfl
theorem tb_667 : (Jvm.Cond.constant "FearLocks$City" (85 : Nat) (65536 : Int32)) ∈ fx_TB := fx_mem 763 (by decide +kernel) rfl
theorem tb_668 : (Jvm.Cond.methodLink "FearLocks$Nightfall" (69 : Nat) ({ cls := "FearLocks$Law", name := "meanTime", desc := "(II)V" } : Jvm.MethodName)) ∈ fx_TB := fx_mem 764 (by decide +kernel) rfl
theorem tb_669 : (Jvm.Cond.instanceMethod ({ cls := "FearLocks$Law", name := "meanTime", desc := "(II)V" } : Jvm.MethodName)) ∈ fx_TB := fx_mem 765 (by decide +kernel) rfl
theorem tb_670 : (Jvm.Cond.selects "FearLocks$Law" ({ cls := "FearLocks$Law", name := "meanTime", desc := "(II)V" } : Jvm.MethodName) ({ cls := "FearLocks$Law", name := "meanTime", desc := "(II)V" } : Jvm.MethodName)) ∈ fx_TB := fx_mem 766 (by decide +kernel) rfl
theorem tb_671 : (Jvm.Cond.code ({ cls := "FearLocks$Law", name := "meanTime", desc := "(II)V" } : Jvm.MethodName) prog_6_method_11_code (3 : Nat) (Option.none : Option Jvm.ClassFile.FieldType)) ∈ fx_TB := fx_mem 767 (by decide +kernel) rfl
theorem tb_672 : (Jvm.Cond.methodLink "FearLocks$Nightfall" (72 : Nat) ({ cls := "FearLocks$Law", name := "anyHolds", desc := "(I)Z" } : Jvm.MethodName)) ∈ fx_TB := fx_mem 768 (by decide +kernel) rfl
theorem tb_673 : (Jvm.Cond.instanceMethod ({ cls := "FearLocks$Law", name := "anyHolds", desc := "(I)Z" } : Jvm.MethodName)) ∈ fx_TB := fx_mem 769 (by decide +kernel) rfl
theorem tb_674 : (Jvm.Cond.selects "FearLocks$Law" ({ cls := "FearLocks$Law", name := "anyHolds", desc := "(I)Z" } : Jvm.MethodName) ({ cls := "FearLocks$Law", name := "anyHolds", desc := "(I)Z" } : Jvm.MethodName)) ∈ fx_TB := fx_mem 770 (by decide +kernel) rfl
theorem tb_675 : (Jvm.Cond.code ({ cls := "FearLocks$Law", name := "anyHolds", desc := "(I)Z" } : Jvm.MethodName) prog_6_method_12_code (3 : Nat) (Option.some Jvm.ClassFile.FieldType.boolean)) ∈ fx_TB := fx_mem 771 (by decide +kernel) rfl
theorem tb_676 : (Jvm.Cond.methodLink "FearLocks$Law" (57 : Nat) ({ cls := "FearLocks$Law", name := "reckon", desc := "(I)I" } : Jvm.MethodName)) ∈ fx_TB := fx_mem 772 (by decide +kernel) rfl
theorem tb_677 : (Jvm.Cond.privateMethod ({ cls := "FearLocks$Law", name := "reckon", desc := "(I)I" } : Jvm.MethodName)) ∈ fx_TB := fx_mem 773 (by decide +kernel) rfl
theorem tb_678 : (Jvm.Cond.instanceMethod ({ cls := "FearLocks$Law", name := "reckon", desc := "(I)I" } : Jvm.MethodName)) ∈ fx_TB := fx_mem 774 (by decide +kernel) rfl
theorem tb_679 : (Jvm.Cond.code ({ cls := "FearLocks$Law", name := "reckon", desc := "(I)I" } : Jvm.MethodName) prog_6_method_14_code (6 : Nat) (Option.some Jvm.ClassFile.FieldType.int)) ∈ fx_TB := fx_mem 775 (by decide +kernel) rfl
theorem tb_680 : (Jvm.Cond.methodLink "FearLocks$Law" (65 : Nat) ({ cls := "java/lang/Math", name := "max", desc := "(II)I" } : Jvm.MethodName)) ∈ fx_TB := fx_mem 776 (by decide +kernel) rfl
theorem tb_681 : (Jvm.Cond.methodLink "FearLocks$Law" (68 : Nat) ({ cls := "FearLocks$Law", name := "push", desc := "(I)V" } : Jvm.MethodName)) ∈ fx_TB := fx_mem 777 (by decide +kernel) rfl
theorem tb_682 : (Jvm.Cond.privateMethod ({ cls := "FearLocks$Law", name := "push", desc := "(I)V" } : Jvm.MethodName)) ∈ fx_TB := fx_mem 778 (by decide +kernel) rfl
theorem tb_683 : (Jvm.Cond.instanceMethod ({ cls := "FearLocks$Law", name := "push", desc := "(I)V" } : Jvm.MethodName)) ∈ fx_TB := fx_mem 779 (by decide +kernel) rfl
theorem tb_684 : (Jvm.Cond.code ({ cls := "FearLocks$Law", name := "push", desc := "(I)V" } : Jvm.MethodName) prog_6_method_17_code (2 : Nat) (Option.none : Option Jvm.ClassFile.FieldType)) ∈ fx_TB := fx_mem 780 (by decide +kernel) rfl
theorem tb_685 : (Jvm.Cond.methodLink "FearLocks$Law" (72 : Nat) ({ cls := "FearLocks$Law", name := "meaningOf", desc := "(I)I" } : Jvm.MethodName)) ∈ fx_TB := fx_mem 781 (by decide +kernel) rfl
theorem tb_686 : (Jvm.Cond.privateMethod ({ cls := "FearLocks$Law", name := "meaningOf", desc := "(I)I" } : Jvm.MethodName)) ∈ fx_TB := fx_mem 782 (by decide +kernel) rfl
theorem tb_687 : (Jvm.Cond.instanceMethod ({ cls := "FearLocks$Law", name := "meaningOf", desc := "(I)I" } : Jvm.MethodName)) ∈ fx_TB := fx_mem 783 (by decide +kernel) rfl
theorem tb_688 : (Jvm.Cond.code ({ cls := "FearLocks$Law", name := "meaningOf", desc := "(I)I" } : Jvm.MethodName) prog_6_method_16_code (2 : Nat) (Option.some Jvm.ClassFile.FieldType.int)) ∈ fx_TB := fx_mem 784 (by decide +kernel) rfl
theorem tb_689 : (Jvm.Cond.methodLink "FearLocks$Law" (75 : Nat) ({ cls := "FearLocks$Law", name := "pop", desc := "()I" } : Jvm.MethodName)) ∈ fx_TB := fx_mem 785 (by decide +kernel) rfl
theorem tb_690 : (Jvm.Cond.privateMethod ({ cls := "FearLocks$Law", name := "pop", desc := "()I" } : Jvm.MethodName)) ∈ fx_TB := fx_mem 786 (by decide +kernel) rfl
theorem tb_691 : (Jvm.Cond.instanceMethod ({ cls := "FearLocks$Law", name := "pop", desc := "()I" } : Jvm.MethodName)) ∈ fx_TB := fx_mem 787 (by decide +kernel) rfl
theorem tb_692 : (Jvm.Cond.code ({ cls := "FearLocks$Law", name := "pop", desc := "()I" } : Jvm.MethodName) prog_6_method_18_code (1 : Nat) (Option.some Jvm.ClassFile.FieldType.int)) ∈ fx_TB := fx_mem 788 (by decide +kernel) rfl
theorem tb_693 : (Jvm.Cond.methodLink "FearLocks$Law" (78 : Nat) ({ cls := "FearLocks$Law", name := "joined", desc := "(III)I" } : Jvm.MethodName)) ∈ fx_TB := fx_mem 789 (by decide +kernel) rfl
theorem tb_694 : (Jvm.Cond.static ({ cls := "FearLocks$Law", name := "joined", desc := "(III)I" } : Jvm.MethodName)) ∈ fx_TB := fx_mem 790 (by decide +kernel) rfl
theorem tb_695 : (Jvm.Cond.code ({ cls := "FearLocks$Law", name := "joined", desc := "(III)I" } : Jvm.MethodName) prog_6_method_15_code (3 : Nat) (Option.some Jvm.ClassFile.FieldType.int)) ∈ fx_TB := fx_mem 791 (by decide +kernel) rfl
theorem tb_696 : (Jvm.Cond.methodLink "FearLocks$Nightfall" (75 : Nat) ({ cls := "FearLocks$Nightfall", name := "doorTried", desc := "(LFearLocks$City;LFearLocks$Law;I)I" } : Jvm.MethodName)) ∈ fx_TB := fx_mem 792 (by decide +kernel) rfl
theorem tb_697 : (Jvm.Cond.static ({ cls := "FearLocks$Nightfall", name := "doorTried", desc := "(LFearLocks$City;LFearLocks$Law;I)I" } : Jvm.MethodName)) ∈ fx_TB := fx_mem 793 (by decide +kernel) rfl
theorem tb_698 : (Jvm.Cond.code ({ cls := "FearLocks$Nightfall", name := "doorTried", desc := "(LFearLocks$City;LFearLocks$Law;I)I" } : Jvm.MethodName) prog_9_method_4_code (7 : Nat) (Option.some Jvm.ClassFile.FieldType.int)) ∈ fx_TB := fx_mem 794 (by decide +kernel) rfl
theorem tb_699 : (Jvm.Cond.methodLink "FearLocks$Nightfall" (83 : Nat) ({ cls := "FearLocks$City", name := "isDoor", desc := "(I)Z" } : Jvm.MethodName)) ∈ fx_TB := fx_mem 795 (by decide +kernel) rfl
theorem tb_700 : (Jvm.Cond.methodLink "FearLocks$Nightfall" (86 : Nat) ({ cls := "FearLocks$Nightfall", name := "meanDoorFor", desc := "(LFearLocks$City;LFearLocks$Law;II)V" } : Jvm.MethodName)) ∈ fx_TB := fx_mem 796 (by decide +kernel) rfl
theorem tb_701 : (Jvm.Cond.static ({ cls := "FearLocks$Nightfall", name := "meanDoorFor", desc := "(LFearLocks$City;LFearLocks$Law;II)V" } : Jvm.MethodName)) ∈ fx_TB := fx_mem 797 (by decide +kernel) rfl
theorem tb_702 : (Jvm.Cond.code ({ cls := "FearLocks$Nightfall", name := "meanDoorFor", desc := "(LFearLocks$City;LFearLocks$Law;II)V" } : Jvm.MethodName) prog_9_method_5_code (5 : Nat) (Option.none : Option Jvm.ClassFile.FieldType)) ∈ fx_TB := fx_mem 798 (by decide +kernel) rfl
theorem tb_703 : (Jvm.Cond.methodLink "FearLocks$Nightfall" (97 : Nat) ({ cls := "FearLocks$City", name := "dreadOf", desc := "(II)I" } : Jvm.MethodName)) ∈ fx_TB := fx_mem 799 (by decide +kernel) rfl
theorem tb_704 : (Jvm.Cond.methodLink "FearLocks$Nightfall" (89 : Nat) ({ cls := "FearLocks$Law", name := "worth", desc := "(II)I" } : Jvm.MethodName)) ∈ fx_TB := fx_mem 800 (by decide +kernel) rfl
theorem tb_705 : (Jvm.Cond.instanceMethod ({ cls := "FearLocks$Law", name := "worth", desc := "(II)I" } : Jvm.MethodName)) ∈ fx_TB := fx_mem 801 (by decide +kernel) rfl
theorem tb_706 : (Jvm.Cond.selects "FearLocks$Law" ({ cls := "FearLocks$Law", name := "worth", desc := "(II)I" } : Jvm.MethodName) ({ cls := "FearLocks$Law", name := "worth", desc := "(II)I" } : Jvm.MethodName)) ∈ fx_TB := fx_mem 802 (by decide +kernel) rfl
theorem tb_707 : (Jvm.Cond.code ({ cls := "FearLocks$Law", name := "worth", desc := "(II)I" } : Jvm.MethodName) prog_6_method_13_code (4 : Nat) (Option.some Jvm.ClassFile.FieldType.int)) ∈ fx_TB := fx_mem 803 (by decide +kernel) rfl
theorem tb_708 : (Jvm.Cond.methodLinkNest "FearLocks$Law" (61 : Nat) ({ cls := "FearLocks", name := "bounded", desc := "(III)I" } : Jvm.MethodName) "FearLocks") ∈ fx_TB := fx_mem 804 (by decide +kernel) rfl
theorem tb_709 : (Jvm.Cond.methodLink "FearLocks$Nightfall" (79 : Nat) ({ cls := "FearLocks$Nightfall", name := "tryDoor", desc := "(LFearLocks$City;LFearLocks$Law;II)V" } : Jvm.MethodName)) ∈ fx_TB := fx_mem 805 (by decide +kernel) rfl
theorem tb_710 : (Jvm.Cond.privateMethod ({ cls := "FearLocks$Nightfall", name := "tryDoor", desc := "(LFearLocks$City;LFearLocks$Law;II)V" } : Jvm.MethodName)) ∈ fx_TB := fx_mem 806 (by decide +kernel) rfl
theorem tb_711 : (Jvm.Cond.instanceMethod ({ cls := "FearLocks$Nightfall", name := "tryDoor", desc := "(LFearLocks$City;LFearLocks$Law;II)V" } : Jvm.MethodName)) ∈ fx_TB := fx_mem 807 (by decide +kernel) rfl
theorem tb_712 : (Jvm.Cond.code ({ cls := "FearLocks$Nightfall", name := "tryDoor", desc := "(LFearLocks$City;LFearLocks$Law;II)V" } : Jvm.MethodName) prog_9_method_6_code (8 : Nat) (Option.none : Option Jvm.ClassFile.FieldType)) ∈ fx_TB := fx_mem 808 (by decide +kernel) rfl
theorem tb_713 : (Jvm.Cond.methodLink "FearLocks$Nightfall" (106 : Nat) ({ cls := "FearLocks$City", name := "opens", desc := "(II)Z" } : Jvm.MethodName)) ∈ fx_TB := fx_mem 809 (by decide +kernel) rfl
theorem tb_714 : (Jvm.Cond.instanceMethod ({ cls := "FearLocks$City", name := "opens", desc := "(II)Z" } : Jvm.MethodName)) ∈ fx_TB := fx_mem 810 (by decide +kernel) rfl
theorem tb_715 : (Jvm.Cond.selects "FearLocks$City" ({ cls := "FearLocks$City", name := "opens", desc := "(II)Z" } : Jvm.MethodName) ({ cls := "FearLocks$City", name := "opens", desc := "(II)Z" } : Jvm.MethodName)) ∈ fx_TB := fx_mem 811 (by decide +kernel) rfl
theorem tb_716 : (Jvm.Cond.code ({ cls := "FearLocks$City", name := "opens", desc := "(II)Z" } : Jvm.MethodName) prog_2_method_18_code (3 : Nat) (Option.some Jvm.ClassFile.FieldType.boolean)) ∈ fx_TB := fx_mem 812 (by decide +kernel) rfl
theorem tb_717 : (Jvm.Cond.methodLink "FearLocks$City" (70 : Nat) ({ cls := "FearLocks$City", name := "isPerson", desc := "(I)Z" } : Jvm.MethodName)) ∈ fx_TB := fx_mem 813 (by decide +kernel) rfl
theorem tb_718 : (Jvm.Cond.methodLink "FearLocks$City" (79 : Nat) ({ cls := "FearLocks$City", name := "isDoor", desc := "(I)Z" } : Jvm.MethodName)) ∈ fx_TB := fx_mem 814 (by decide +kernel) rfl
theorem tb_719 : (Jvm.Cond.methodLink "FearLocks$City" (63 : Nat) ({ cls := "FearLocks$City", name := "fearOf", desc := "(I)I" } : Jvm.MethodName)) ∈ fx_TB := fx_mem 815 (by decide +kernel) rfl
theorem tb_720 : (Jvm.Cond.instanceMethod ({ cls := "FearLocks$City", name := "fearOf", desc := "(I)I" } : Jvm.MethodName)) ∈ fx_TB := fx_mem 816 (by decide +kernel) rfl
theorem tb_721 : (Jvm.Cond.selects "FearLocks$City" ({ cls := "FearLocks$City", name := "fearOf", desc := "(I)I" } : Jvm.MethodName) ({ cls := "FearLocks$City", name := "fearOf", desc := "(I)I" } : Jvm.MethodName)) ∈ fx_TB := fx_mem 817 (by decide +kernel) rfl
theorem tb_722 : (Jvm.Cond.code ({ cls := "FearLocks$City", name := "fearOf", desc := "(I)I" } : Jvm.MethodName) prog_2_method_8_code (5 : Nat) (Option.some Jvm.ClassFile.FieldType.int)) ∈ fx_TB := fx_mem 818 (by decide +kernel) rfl
theorem tb_723 : (Jvm.Cond.methodLink "FearLocks$City" (59 : Nat) ({ cls := "FearLocks$City", name := "greatestDread", desc := "(I)I" } : Jvm.MethodName)) ∈ fx_TB := fx_mem 819 (by decide +kernel) rfl
theorem tb_724 : (Jvm.Cond.methodLink "FearLocks$Nightfall" (110 : Nat) ({ cls := "java/lang/Math", name := "min", desc := "(II)I" } : Jvm.MethodName)) ∈ fx_TB := fx_mem 820 (by decide +kernel) rfl
theorem tb_725 : (Jvm.Cond.methodLink "FearLocks$Nightfall" (115 : Nat) ({ cls := "FearLocks$City", name := "setDread", desc := "(III)V" } : Jvm.MethodName)) ∈ fx_TB := fx_mem 821 (by decide +kernel) rfl
theorem tb_726 : (Jvm.Cond.methodLink "FearLocks$Nightfall" (36 : Nat) ({ cls := "FearLocks$Nightfall", name := "spreadDread", desc := "(LFearLocks$City;LFearLocks$Law;)V" } : Jvm.MethodName)) ∈ fx_TB := fx_mem 822 (by decide +kernel) rfl
theorem tb_727 : (Jvm.Cond.privateMethod ({ cls := "FearLocks$Nightfall", name := "spreadDread", desc := "(LFearLocks$City;LFearLocks$Law;)V" } : Jvm.MethodName)) ∈ fx_TB := fx_mem 823 (by decide +kernel) rfl
theorem tb_728 : (Jvm.Cond.instanceMethod ({ cls := "FearLocks$Nightfall", name := "spreadDread", desc := "(LFearLocks$City;LFearLocks$Law;)V" } : Jvm.MethodName)) ∈ fx_TB := fx_mem 824 (by decide +kernel) rfl
theorem tb_729 : (Jvm.Cond.code ({ cls := "FearLocks$Nightfall", name := "spreadDread", desc := "(LFearLocks$City;LFearLocks$Law;)V" } : Jvm.MethodName) prog_9_method_7_code (5 : Nat) (Option.none : Option Jvm.ClassFile.FieldType)) ∈ fx_TB := fx_mem 825 (by decide +kernel) rfl
theorem tb_730 : (Jvm.Cond.methodLink "FearLocks$Nightfall" (118 : Nat) ({ cls := "FearLocks$City", name := "copyFrom", desc := "(LFearLocks$City;)V" } : Jvm.MethodName)) ∈ fx_TB := fx_mem 826 (by decide +kernel) rfl
theorem tb_731 : (Jvm.Cond.methodLinkNest "FearLocks$Nightfall" (122 : Nat) ({ cls := "FearLocks", name := "has", desc := "(II)Z" } : Jvm.MethodName) "FearLocks") ∈ fx_TB := fx_mem 827 (by decide +kernel) rfl
theorem tb_732 : (Jvm.Cond.methodLink "FearLocks$Nightfall" (125 : Nat) ({ cls := "FearLocks$Nightfall", name := "catchDread", desc := "(LFearLocks$City;LFearLocks$Law;II)V" } : Jvm.MethodName)) ∈ fx_TB := fx_mem 828 (by decide +kernel) rfl
theorem tb_733 : (Jvm.Cond.privateMethod ({ cls := "FearLocks$Nightfall", name := "catchDread", desc := "(LFearLocks$City;LFearLocks$Law;II)V" } : Jvm.MethodName)) ∈ fx_TB := fx_mem 829 (by decide +kernel) rfl
theorem tb_734 : (Jvm.Cond.instanceMethod ({ cls := "FearLocks$Nightfall", name := "catchDread", desc := "(LFearLocks$City;LFearLocks$Law;II)V" } : Jvm.MethodName)) ∈ fx_TB := fx_mem 830 (by decide +kernel) rfl
theorem tb_735 : (Jvm.Cond.code ({ cls := "FearLocks$Nightfall", name := "catchDread", desc := "(LFearLocks$City;LFearLocks$Law;II)V" } : Jvm.MethodName) prog_9_method_8_code (7 : Nat) (Option.none : Option Jvm.ClassFile.FieldType)) ∈ fx_TB := fx_mem 831 (by decide +kernel) rfl
theorem tb_736 : (Jvm.Cond.methodLink "FearLocks$Nightfall" (128 : Nat) ({ cls := "FearLocks$City", name := "fearOf", desc := "(I)I" } : Jvm.MethodName)) ∈ fx_TB := fx_mem 832 (by decide +kernel) rfl
theorem tb_737 : (Jvm.Cond.methodLink "FearLocksLaw" (36 : Nat) ({ cls := "FearLocks", name := "tried", desc := "(II)I" } : Jvm.MethodName)) ∈ fx_TB := fx_mem 833 (by decide +kernel) rfl
theorem tb_738 : (Jvm.Cond.instanceMethod ({ cls := "FearLocks", name := "tried", desc := "(II)I" } : Jvm.MethodName)) ∈ fx_TB := fx_mem 834 (by decide +kernel) rfl
theorem tb_739 : (Jvm.Cond.selects "FearLocks" ({ cls := "FearLocks", name := "tried", desc := "(II)I" } : Jvm.MethodName) ({ cls := "FearLocks", name := "tried", desc := "(II)I" } : Jvm.MethodName)) ∈ fx_TB := fx_mem 835 (by decide +kernel) rfl
theorem tb_740 : (Jvm.Cond.code ({ cls := "FearLocks", name := "tried", desc := "(II)I" } : Jvm.MethodName) prog_1_method_7_code (3 : Nat) (Option.some Jvm.ClassFile.FieldType.int)) ∈ fx_TB := fx_mem 836 (by decide +kernel) rfl
theorem tb_741 : (Jvm.Cond.methodLink "FearLocks" (121 : Nat) ({ cls := "FearLocks", name := "canBeTried", desc := "(I)Z" } : Jvm.MethodName)) ∈ fx_TB := fx_mem 837 (by decide +kernel) rfl
theorem tb_742 : (Jvm.Cond.privateMethod ({ cls := "FearLocks", name := "canBeTried", desc := "(I)Z" } : Jvm.MethodName)) ∈ fx_TB := fx_mem 838 (by decide +kernel) rfl
theorem tb_743 : (Jvm.Cond.instanceMethod ({ cls := "FearLocks", name := "canBeTried", desc := "(I)Z" } : Jvm.MethodName)) ∈ fx_TB := fx_mem 839 (by decide +kernel) rfl
theorem tb_744 : (Jvm.Cond.code ({ cls := "FearLocks", name := "canBeTried", desc := "(I)Z" } : Jvm.MethodName) prog_1_method_8_code (2 : Nat) (Option.some Jvm.ClassFile.FieldType.boolean)) ∈ fx_TB := fx_mem 840 (by decide +kernel) rfl
theorem tb_745 : (Jvm.Cond.methodLink "FearLocks" (137 : Nat) ({ cls := "FearLocks$City", name := "isPerson", desc := "(I)Z" } : Jvm.MethodName)) ∈ fx_TB := fx_mem 841 (by decide +kernel) rfl
theorem tb_746 : (Jvm.Cond.methodLink "FearLocks" (140 : Nat) ({ cls := "FearLocks$City", name := "isDoor", desc := "(I)Z" } : Jvm.MethodName)) ∈ fx_TB := fx_mem 842 (by decide +kernel) rfl
theorem tb_747 : (Jvm.Cond.methodLink "FearLocks" (128 : Nat) ({ cls := "FearLocks$City", name := "fearOf", desc := "(I)I" } : Jvm.MethodName)) ∈ fx_TB := fx_mem 843 (by decide +kernel) rfl
theorem tb_748 : (Jvm.Cond.methodLink "FearLocks" (131 : Nat) ({ cls := "FearLocks$City", name := "greatestDread", desc := "(I)I" } : Jvm.MethodName)) ∈ fx_TB := fx_mem 844 (by decide +kernel) rfl
theorem tb_749 : (Jvm.Cond.methodLink "FearLocks" (134 : Nat) ({ cls := "FearLocks$City", name := "openedOf", desc := "(I)I" } : Jvm.MethodName)) ∈ fx_TB := fx_mem 845 (by decide +kernel) rfl
theorem tb_750 : (Jvm.Cond.instanceMethod ({ cls := "FearLocks$City", name := "openedOf", desc := "(I)I" } : Jvm.MethodName)) ∈ fx_TB := fx_mem 846 (by decide +kernel) rfl
theorem tb_751 : (Jvm.Cond.selects "FearLocks$City" ({ cls := "FearLocks$City", name := "openedOf", desc := "(I)I" } : Jvm.MethodName) ({ cls := "FearLocks$City", name := "openedOf", desc := "(I)I" } : Jvm.MethodName)) ∈ fx_TB := fx_mem 847 (by decide +kernel) rfl
theorem tb_752 : (Jvm.Cond.code ({ cls := "FearLocks$City", name := "openedOf", desc := "(I)I" } : Jvm.MethodName) prog_2_method_21_code (2 : Nat) (Option.some Jvm.ClassFile.FieldType.int)) ∈ fx_TB := fx_mem 848 (by decide +kernel) rfl
theorem tb_753 : (Jvm.Cond.methodLink "FearLocksLaw" (40 : Nat) ({ cls := "FearLocks", name := "personIs", desc := "(II)I" } : Jvm.MethodName)) ∈ fx_TB := fx_mem 849 (by decide +kernel) rfl
theorem tb_754 : (Jvm.Cond.instanceMethod ({ cls := "FearLocks", name := "personIs", desc := "(II)I" } : Jvm.MethodName)) ∈ fx_TB := fx_mem 850 (by decide +kernel) rfl
theorem tb_755 : (Jvm.Cond.selects "FearLocks" ({ cls := "FearLocks", name := "personIs", desc := "(II)I" } : Jvm.MethodName) ({ cls := "FearLocks", name := "personIs", desc := "(II)I" } : Jvm.MethodName)) ∈ fx_TB := fx_mem 851 (by decide +kernel) rfl
theorem tb_756 : (Jvm.Cond.code ({ cls := "FearLocks", name := "personIs", desc := "(II)I" } : Jvm.MethodName) prog_1_method_9_code (3 : Nat) (Option.some Jvm.ClassFile.FieldType.int)) ∈ fx_TB := fx_mem 852 (by decide +kernel) rfl
theorem tb_757 : (Jvm.Cond.methodLink "FearLocks" (143 : Nat) ({ cls := "FearLocks$City", name := "dreadOf", desc := "(II)I" } : Jvm.MethodName)) ∈ fx_TB := fx_mem 853 (by decide +kernel) rfl
theorem tb_758 : (Jvm.Cond.methodLink "FearLocks" (147 : Nat) ({ cls := "FearLocks$City", name := "knownTo", desc := "(I)I" } : Jvm.MethodName)) ∈ fx_TB := fx_mem 854 (by decide +kernel) rfl
theorem tb_759 : (Jvm.Cond.methodLink "FearLocks" (150 : Nat) ({ cls := "FearLocks$City", name := "doorsOpenTo", desc := "(I)I" } : Jvm.MethodName)) ∈ fx_TB := fx_mem 855 (by decide +kernel) rfl
theorem tb_760 : (Jvm.Cond.instanceMethod ({ cls := "FearLocks$City", name := "doorsOpenTo", desc := "(I)I" } : Jvm.MethodName)) ∈ fx_TB := fx_mem 856 (by decide +kernel) rfl
theorem tb_761 : (Jvm.Cond.selects "FearLocks$City" ({ cls := "FearLocks$City", name := "doorsOpenTo", desc := "(I)I" } : Jvm.MethodName) ({ cls := "FearLocks$City", name := "doorsOpenTo", desc := "(I)I" } : Jvm.MethodName)) ∈ fx_TB := fx_mem 857 (by decide +kernel) rfl
theorem tb_762 : (Jvm.Cond.code ({ cls := "FearLocks$City", name := "doorsOpenTo", desc := "(I)I" } : Jvm.MethodName) prog_2_method_19_code (4 : Nat) (Option.some Jvm.ClassFile.FieldType.int)) ∈ fx_TB := fx_mem 858 (by decide +kernel) rfl
theorem tb_763 : (Jvm.Cond.methodLink "FearLocks$City" (82 : Nat) ({ cls := "FearLocks$City", name := "opens", desc := "(II)Z" } : Jvm.MethodName)) ∈ fx_TB := fx_mem 859 (by decide +kernel) rfl
theorem tb_764 : (Jvm.Cond.methodLink "FearLocks" (153 : Nat) ({ cls := "FearLocks$City", name := "dreadInAll", desc := "(I)I" } : Jvm.MethodName)) ∈ fx_TB := fx_mem 860 (by decide +kernel) rfl
theorem tb_765 : (Jvm.Cond.instanceMethod ({ cls := "FearLocks$City", name := "dreadInAll", desc := "(I)I" } : Jvm.MethodName)) ∈ fx_TB := fx_mem 861 (by decide +kernel) rfl
theorem tb_766 : (Jvm.Cond.selects "FearLocks$City" ({ cls := "FearLocks$City", name := "dreadInAll", desc := "(I)I" } : Jvm.MethodName) ({ cls := "FearLocks$City", name := "dreadInAll", desc := "(I)I" } : Jvm.MethodName)) ∈ fx_TB := fx_mem 862 (by decide +kernel) rfl
theorem tb_767 : (Jvm.Cond.code ({ cls := "FearLocks$City", name := "dreadInAll", desc := "(I)I" } : Jvm.MethodName) prog_2_method_7_code (4 : Nat) (Option.some Jvm.ClassFile.FieldType.int)) ∈ fx_TB := fx_mem 863 (by decide +kernel) rfl
