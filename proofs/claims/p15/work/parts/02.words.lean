/-! the words of the tables, by their places -/
theorem kw_0 : (Cond.selects "PatternText$PatternReader" ⟨"PatternText$PatternReader", "takeHowOften", "()Z"⟩ ⟨"PatternText$PatternReader", "takeHowOften", "()Z"⟩ : Cond) ∈ ga_tbl := ga_m (List.mem_of_getElem? (i := 0) (by decide +kernel)) rfl
theorem kw_1 : (Cond.selects "PatternText$PatternReader" ⟨"PatternText$PatternReader", "takeWord", "(Ljava/lang/String;)Z"⟩ ⟨"PatternText$PatternReader", "takeWord", "(Ljava/lang/String;)Z"⟩ : Cond) ∈ ga_tbl := ga_m (List.mem_of_getElem? (i := 1) (by decide +kernel)) rfl
theorem kw_2 : (Cond.selects "PatternText$PatternReader" ⟨"PatternText$PatternReader", "signAt", "(I)I"⟩ ⟨"PatternText$PatternReader", "signAt", "(I)I"⟩ : Cond) ∈ ga_tbl := ga_m (List.mem_of_getElem? (i := 2) (by decide +kernel)) rfl
theorem kw_3 : (Cond.selects "PatternText$PatternReader" ⟨"PatternText$PatternReader", "takeSpace", "()Z"⟩ ⟨"PatternText$PatternReader", "takeSpace", "()Z"⟩ : Cond) ∈ ga_tbl := ga_m (List.mem_of_getElem? (i := 3) (by decide +kernel)) rfl
theorem kw_4 : (Cond.selects "PatternText$PatternReader" ⟨"PatternText$PatternReader", "signHere", "()I"⟩ ⟨"PatternText$PatternReader", "signHere", "()I"⟩ : Cond) ∈ ga_tbl := ga_m (List.mem_of_getElem? (i := 4) (by decide +kernel)) rfl
theorem kw_5 : (Cond.selects "PatternText$PatternReader" ⟨"PatternText$PatternReader", "takeNumber", "(II)Z"⟩ ⟨"PatternText$PatternReader", "takeNumber", "(II)Z"⟩ : Cond) ∈ ga_tbl := ga_m (List.mem_of_getElem? (i := 5) (by decide +kernel)) rfl
theorem kw_6 : (Cond.selects "PatternText$PatternReader" ⟨"PatternText$PatternReader", "takeClauses", "()Z"⟩ ⟨"PatternText$PatternReader", "takeClauses", "()Z"⟩ : Cond) ∈ ga_tbl := ga_m (List.mem_of_getElem? (i := 6) (by decide +kernel)) rfl
theorem kw_7 : (Cond.selects "PatternText$PatternReader" ⟨"PatternText$PatternReader", "takeNextWord", "(Ljava/lang/String;)Z"⟩ ⟨"PatternText$PatternReader", "takeNextWord", "(Ljava/lang/String;)Z"⟩ : Cond) ∈ ga_tbl := ga_m (List.mem_of_getElem? (i := 7) (by decide +kernel)) rfl
theorem kw_8 : (Cond.selects "PatternText$PatternReader" ⟨"PatternText$PatternReader", "takeMonths", "()Z"⟩ ⟨"PatternText$PatternReader", "takeMonths", "()Z"⟩ : Cond) ∈ ga_tbl := ga_m (List.mem_of_getElem? (i := 8) (by decide +kernel)) rfl
theorem kw_9 : (Cond.selects "PatternText$PatternReader" ⟨"PatternText$PatternReader", "takeEnd", "()Z"⟩ ⟨"PatternText$PatternReader", "takeEnd", "()Z"⟩ : Cond) ∈ ga_tbl := ga_m (List.mem_of_getElem? (i := 9) (by decide +kernel)) rfl
theorem kw_10 : (Cond.selects "PatternText" ⟨"PatternText", "keepPattern", "()I"⟩ ⟨"PatternText", "keepPattern", "()I"⟩ : Cond) ∈ ga_tbl := ga_m (List.mem_of_getElem? (i := 10) (by decide +kernel)) rfl
theorem kw_11 : (Cond.selects "PatternText" ⟨"PatternText", "patternOf", "(I)LPatternText$Pattern;"⟩ ⟨"PatternText", "patternOf", "(I)LPatternText$Pattern;"⟩ : Cond) ∈ ga_tbl := ga_m (List.mem_of_getElem? (i := 11) (by decide +kernel)) rfl
theorem kw_12 : (Cond.selects "PatternText$IssueList" ⟨"PatternText$IssueList", "put", "(LPatternText$Pattern;III)V"⟩ ⟨"PatternText$IssueList", "put", "(LPatternText$Pattern;III)V"⟩ : Cond) ∈ ga_tbl := ga_m (List.mem_of_getElem? (i := 12) (by decide +kernel)) rfl
theorem kw_13 : (Cond.selects "PatternText$IssueList" ⟨"PatternText$IssueList", "isOverdue", "(II)Z"⟩ ⟨"PatternText$IssueList", "isOverdue", "(II)Z"⟩ : Cond) ∈ ga_tbl := ga_m (List.mem_of_getElem? (i := 13) (by decide +kernel)) rfl
theorem kw_14 : (Cond.selects "PatternText$IssueList" ⟨"PatternText$IssueList", "isClaimedBefore", "(II)Z"⟩ ⟨"PatternText$IssueList", "isClaimedBefore", "(II)Z"⟩ : Cond) ∈ ga_tbl := ga_m (List.mem_of_getElem? (i := 14) (by decide +kernel)) rfl
theorem kw_15 : (Cond.selects "java/lang/Throwable" ⟨"java/lang/Throwable", "fillInStackTrace", "(I)Ljava/lang/Throwable;"⟩ ⟨"java/lang/Throwable", "fillInStackTrace", "(I)Ljava/lang/Throwable;"⟩ : Cond) ∈ ga_tbl := ga_m (List.mem_of_getElem? (i := 15) (by decide +kernel)) rfl
theorem kw_16 : (Cond.selects "PatternTextModel" ⟨"PatternTextModel", "reads", "(I)Z"⟩ ⟨"PatternTextModel", "reads", "(I)Z"⟩ : Cond) ∈ ga_tbl := ga_m (List.mem_of_getElem? (i := 16) (by decide +kernel)) rfl
theorem kw_17 : (Cond.selects "PatternTextModel" ⟨"PatternTextModel", "every", "(I)Z"⟩ ⟨"PatternTextModel", "every", "(I)Z"⟩ : Cond) ∈ ga_tbl := ga_m (List.mem_of_getElem? (i := 17) (by decide +kernel)) rfl
theorem kw_18 : (Cond.selects "PatternTextModel" ⟨"PatternTextModel", "word", "()J"⟩ ⟨"PatternTextModel", "word", "()J"⟩ : Cond) ∈ ga_tbl := ga_m (List.mem_of_getElem? (i := 18) (by decide +kernel)) rfl
theorem kw_19 : (Cond.selects "PatternTextModel" ⟨"PatternTextModel", "look", "(I)I"⟩ ⟨"PatternTextModel", "look", "(I)I"⟩ : Cond) ∈ ga_tbl := ga_m (List.mem_of_getElem? (i := 19) (by decide +kernel)) rfl
theorem kw_20 : (Cond.selects "PatternTextModel" ⟨"PatternTextModel", "bad", "(I)Z"⟩ ⟨"PatternTextModel", "bad", "(I)Z"⟩ : Cond) ∈ ga_tbl := ga_m (List.mem_of_getElem? (i := 20) (by decide +kernel)) rfl
theorem kw_21 : (Cond.selects "PatternTextModel" ⟨"PatternTextModel", "pass", "()V"⟩ ⟨"PatternTextModel", "pass", "()V"⟩ : Cond) ∈ ga_tbl := ga_m (List.mem_of_getElem? (i := 21) (by decide +kernel)) rfl
theorem kw_22 : (Cond.selects "PatternTextModel" ⟨"PatternTextModel", "space", "()Z"⟩ ⟨"PatternTextModel", "space", "()Z"⟩ : Cond) ∈ ga_tbl := ga_m (List.mem_of_getElem? (i := 22) (by decide +kernel)) rfl
theorem kw_23 : (Cond.selects "PatternTextModel" ⟨"PatternTextModel", "number", "(II)I"⟩ ⟨"PatternTextModel", "number", "(II)I"⟩ : Cond) ∈ ga_tbl := ga_m (List.mem_of_getElem? (i := 23) (by decide +kernel)) rfl
theorem kw_24 : (Cond.selects "PatternTextModel" ⟨"PatternTextModel", "skip", "(I)Z"⟩ ⟨"PatternTextModel", "skip", "(I)Z"⟩ : Cond) ∈ ga_tbl := ga_m (List.mem_of_getElem? (i := 24) (by decide +kernel)) rfl
theorem kw_25 : (Cond.selects "PatternTextModel" ⟨"PatternTextModel", "isHoliday", "(I)Z"⟩ ⟨"PatternTextModel", "isHoliday", "(I)Z"⟩ : Cond) ∈ ga_tbl := ga_m (List.mem_of_getElem? (i := 25) (by decide +kernel)) rfl
theorem kw_26 : (Cond.selects "PatternTextModel" ⟨"PatternTextModel", "isPattern", "(I)Z"⟩ ⟨"PatternTextModel", "isPattern", "(I)Z"⟩ : Cond) ∈ ga_tbl := ga_m (List.mem_of_getElem? (i := 26) (by decide +kernel)) rfl
theorem kw_27 : (Cond.selects "PatternTextModel" ⟨"PatternTextModel", "go", "(IIII)V"⟩ ⟨"PatternTextModel", "go", "(IIII)V"⟩ : Cond) ∈ ga_tbl := ga_m (List.mem_of_getElem? (i := 27) (by decide +kernel)) rfl
theorem kw_28 : (Cond.selects "PatternTextModel" ⟨"PatternTextModel", "has", "(II)Z"⟩ ⟨"PatternTextModel", "has", "(II)Z"⟩ : Cond) ∈ ga_tbl := ga_m (List.mem_of_getElem? (i := 28) (by decide +kernel)) rfl
theorem kw_29 : (Cond.selects "PatternTextModel" ⟨"PatternTextModel", "isIssue", "(I)Z"⟩ ⟨"PatternTextModel", "isIssue", "(I)Z"⟩ : Cond) ∈ ga_tbl := ga_m (List.mem_of_getElem? (i := 29) (by decide +kernel)) rfl
theorem kw_30 : (Cond.selects "PatternTextModel" ⟨"PatternTextModel", "told", "(II)I"⟩ ⟨"PatternTextModel", "told", "(II)I"⟩ : Cond) ∈ ga_tbl := ga_m (List.mem_of_getElem? (i := 30) (by decide +kernel)) rfl
theorem kw_31 : (Cond.selects "PatternTextModel" ⟨"PatternTextModel", "lateOn", "(II)I"⟩ ⟨"PatternTextModel", "lateOn", "(II)I"⟩ : Cond) ∈ ga_tbl := ga_m (List.mem_of_getElem? (i := 31) (by decide +kernel)) rfl
theorem kw_32 : (Cond.selects "PatternTextModel" ⟨"PatternTextModel", "isClaim", "(II)Z"⟩ ⟨"PatternTextModel", "isClaim", "(II)Z"⟩ : Cond) ∈ ga_tbl := ga_m (List.mem_of_getElem? (i := 32) (by decide +kernel)) rfl
theorem kw_33 : (Cond.initialized "PatternTextLaw" : Cond) ∈ ga_tbl := ga_m (List.mem_of_getElem? (i := 33) (by decide +kernel)) rfl
theorem kw_34 : (Cond.initialized "PatternText" : Cond) ∈ ga_tbl := ga_m (List.mem_of_getElem? (i := 34) (by decide +kernel)) rfl
theorem kw_35 : (Cond.initialized "PatternText$PatternReader" : Cond) ∈ ga_tbl := ga_m (List.mem_of_getElem? (i := 35) (by decide +kernel)) rfl
theorem kw_36 : (Cond.initialized "PatternText$Holidays" : Cond) ∈ ga_tbl := ga_m (List.mem_of_getElem? (i := 36) (by decide +kernel)) rfl
theorem kw_37 : (Cond.initialized "PatternText$IssueList" : Cond) ∈ ga_tbl := ga_m (List.mem_of_getElem? (i := 37) (by decide +kernel)) rfl
theorem kw_38 : (Cond.initialized "PatternTextModel" : Cond) ∈ ga_tbl := ga_m (List.mem_of_getElem? (i := 38) (by decide +kernel)) rfl
theorem kw_39 : (Cond.initialized "java/lang/String" : Cond) ∈ ga_tbl := ga_m (List.mem_of_getElem? (i := 39) (by decide +kernel)) rfl
theorem kw_40 : (Cond.initialized "java/lang/StringLatin1" : Cond) ∈ ga_tbl := ga_m (List.mem_of_getElem? (i := 40) (by decide +kernel)) rfl
theorem kw_41 : (Cond.initialized "jdk/internal/util/Preconditions" : Cond) ∈ ga_tbl := ga_m (List.mem_of_getElem? (i := 41) (by decide +kernel)) rfl
theorem kw_42 : (Cond.initialized "java/lang/StringUTF16" : Cond) ∈ ga_tbl := ga_m (List.mem_of_getElem? (i := 42) (by decide +kernel)) rfl
theorem kw_43 : (Cond.initialized "java/lang/Math" : Cond) ∈ ga_tbl := ga_m (List.mem_of_getElem? (i := 43) (by decide +kernel)) rfl
theorem kw_44 : (Cond.initialized "java/lang/System" : Cond) ∈ ga_tbl := ga_m (List.mem_of_getElem? (i := 44) (by decide +kernel)) rfl
theorem kw_45 : (Cond.initialized "PatternText$Pattern" : Cond) ∈ ga_tbl := ga_m (List.mem_of_getElem? (i := 45) (by decide +kernel)) rfl
theorem kw_46 : (Cond.initialized "java/lang/Throwable" : Cond) ∈ ga_tbl := ga_m (List.mem_of_getElem? (i := 46) (by decide +kernel)) rfl
theorem kw_47 : (Cond.initialized "java/lang/Exception" : Cond) ∈ ga_tbl := ga_m (List.mem_of_getElem? (i := 47) (by decide +kernel)) rfl
theorem kw_48 : (Cond.initialized "java/lang/RuntimeException" : Cond) ∈ ga_tbl := ga_m (List.mem_of_getElem? (i := 48) (by decide +kernel)) rfl
theorem kw_49 : (Cond.initialized "java/lang/ArithmeticException" : Cond) ∈ ga_tbl := ga_m (List.mem_of_getElem? (i := 49) (by decide +kernel)) rfl
theorem kw_50 : (Cond.classLink "PatternTextLaw" 8 "PatternText" : Cond) ∈ ga_tbl := ga_m (List.mem_of_getElem? (i := 50) (by decide +kernel)) rfl
theorem kw_51 : (Cond.instantiable "PatternText" 6 : Cond) ∈ ga_tbl := ga_m (List.mem_of_getElem? (i := 51) (by decide +kernel)) rfl
theorem kw_52 : (Cond.methodLink "PatternTextLaw" 15 ⟨"PatternText", "<init>", "()V"⟩ : Cond) ∈ ga_tbl := ga_m (List.mem_of_getElem? (i := 52) (by decide +kernel)) rfl
theorem kw_53 : (Cond.instanceMethod ⟨"PatternText", "<init>", "()V"⟩ : Cond) ∈ ga_tbl := ga_m (List.mem_of_getElem? (i := 53) (by decide +kernel)) rfl
theorem kw_54 : (Cond.code ⟨"PatternText", "<init>", "()V"⟩ prog_1_method_1_code 1 none : Cond) ∈ ga_tbl := ga_m (List.mem_of_getElem? (i := 54) (by decide +kernel)) rfl
theorem kw_55 : (Cond.methodLink "PatternText" 1 ⟨"java/lang/Object", "<init>", "()V"⟩ : Cond) ∈ ga_tbl := ga_m (List.mem_of_getElem? (i := 55) (by decide +kernel)) rfl
theorem kw_56 : (Cond.instanceMethod ⟨"java/lang/Object", "<init>", "()V"⟩ : Cond) ∈ ga_tbl := ga_m (List.mem_of_getElem? (i := 56) (by decide +kernel)) rfl
theorem kw_57 : (Cond.code ⟨"java/lang/Object", "<init>", "()V"⟩ object_method_1_code 1 none : Cond) ∈ ga_tbl := ga_m (List.mem_of_getElem? (i := 57) (by decide +kernel)) rfl
theorem kw_58 : (Cond.classLink "PatternText" 7 "PatternText$PatternReader" : Cond) ∈ ga_tbl := ga_m (List.mem_of_getElem? (i := 58) (by decide +kernel)) rfl
theorem kw_59 : (Cond.instantiable "PatternText$PatternReader" 9 : Cond) ∈ ga_tbl := ga_m (List.mem_of_getElem? (i := 59) (by decide +kernel)) rfl
theorem kl_60 : (Cond.methodLinkNest "PatternText" 9 ⟨"PatternText$PatternReader", "<init>", "()V"⟩ "PatternText" : Cond) ∈ lw_tbl := List.mem_of_getElem? (i := 60) (by decide +kernel)
theorem kw_61 : (Cond.instanceMethod ⟨"PatternText$PatternReader", "<init>", "()V"⟩ : Cond) ∈ ga_tbl := ga_m (List.mem_of_getElem? (i := 61) (by decide +kernel)) rfl
theorem kw_62 : (Cond.code ⟨"PatternText$PatternReader", "<init>", "()V"⟩ prog_5_method_1_code 1 none : Cond) ∈ ga_tbl := ga_m (List.mem_of_getElem? (i := 62) (by decide +kernel)) rfl
theorem kw_63 : (Cond.methodLink "PatternText$PatternReader" 3 ⟨"java/lang/Object", "<init>", "()V"⟩ : Cond) ∈ ga_tbl := ga_m (List.mem_of_getElem? (i := 63) (by decide +kernel)) rfl
theorem kw_64 : (Cond.fieldLink "PatternText$PatternReader" 9 "PatternText$PatternReader" "signs" "[I" : Cond) ∈ ga_tbl := ga_m (List.mem_of_getElem? (i := 64) (by decide +kernel)) rfl
theorem kw_65 : (Cond.fieldLink "PatternText$PatternReader" 15 "PatternText$PatternReader" "length" "I" : Cond) ∈ ga_tbl := ga_m (List.mem_of_getElem? (i := 65) (by decide +kernel)) rfl
theorem kw_66 : (Cond.fieldLink "PatternText$PatternReader" 19 "PatternText$PatternReader" "place" "I" : Cond) ∈ ga_tbl := ga_m (List.mem_of_getElem? (i := 66) (by decide +kernel)) rfl
theorem kl_67 : (Cond.fieldLinkNest "PatternText" 52 "PatternText$PatternReader" "place" "I" "PatternText" : Cond) ∈ lw_tbl := List.mem_of_getElem? (i := 67) (by decide +kernel)
theorem kw_68 : (Cond.fieldLink "PatternText$PatternReader" 22 "PatternText$PatternReader" "number" "I" : Cond) ∈ ga_tbl := ga_m (List.mem_of_getElem? (i := 68) (by decide +kernel)) rfl
theorem kw_69 : (Cond.fieldLink "PatternText$PatternReader" 25 "PatternText$PatternReader" "stepDays" "I" : Cond) ∈ ga_tbl := ga_m (List.mem_of_getElem? (i := 69) (by decide +kernel)) rfl
theorem kw_70 : (Cond.fieldLink "PatternText$PatternReader" 28 "PatternText$PatternReader" "monthsLeftOut" "I" : Cond) ∈ ga_tbl := ga_m (List.mem_of_getElem? (i := 70) (by decide +kernel)) rfl
theorem kw_71 : (Cond.fieldLink "PatternText$PatternReader" 31 "PatternText$PatternReader" "joined" "I" : Cond) ∈ ga_tbl := ga_m (List.mem_of_getElem? (i := 71) (by decide +kernel)) rfl
theorem kw_72 : (Cond.fieldLink "PatternText$PatternReader" 34 "PatternText$PatternReader" "volume" "I" : Cond) ∈ ga_tbl := ga_m (List.mem_of_getElem? (i := 72) (by decide +kernel)) rfl
theorem kw_73 : (Cond.fieldLink "PatternText$PatternReader" 37 "PatternText$PatternReader" "restarts" "Z" : Cond) ∈ ga_tbl := ga_m (List.mem_of_getElem? (i := 73) (by decide +kernel)) rfl
theorem kw_74 : (Cond.laysFinal "PatternText$PatternReader" "PatternText$PatternReader" "signs" "[I" : Cond) ∈ ga_tbl := ga_m (List.mem_of_getElem? (i := 74) (by decide +kernel)) rfl
theorem kw_75 : (Cond.soleField "PatternText$PatternReader" "signs" : Cond) ∈ ga_tbl := ga_m (List.mem_of_getElem? (i := 75) (by decide +kernel)) rfl
theorem kw_76 : (Cond.lays "PatternText$PatternReader" "PatternText$PatternReader" "length" "I" : Cond) ∈ ga_tbl := ga_m (List.mem_of_getElem? (i := 76) (by decide +kernel)) rfl
theorem kw_77 : (Cond.soleField "PatternText$PatternReader" "length" : Cond) ∈ ga_tbl := ga_m (List.mem_of_getElem? (i := 77) (by decide +kernel)) rfl
theorem kw_78 : (Cond.lays "PatternText$PatternReader" "PatternText$PatternReader" "place" "I" : Cond) ∈ ga_tbl := ga_m (List.mem_of_getElem? (i := 78) (by decide +kernel)) rfl
theorem kw_79 : (Cond.soleField "PatternText$PatternReader" "place" : Cond) ∈ ga_tbl := ga_m (List.mem_of_getElem? (i := 79) (by decide +kernel)) rfl
theorem kw_80 : (Cond.lays "PatternText$PatternReader" "PatternText$PatternReader" "number" "I" : Cond) ∈ ga_tbl := ga_m (List.mem_of_getElem? (i := 80) (by decide +kernel)) rfl
theorem kw_81 : (Cond.soleField "PatternText$PatternReader" "number" : Cond) ∈ ga_tbl := ga_m (List.mem_of_getElem? (i := 81) (by decide +kernel)) rfl
theorem kw_82 : (Cond.lays "PatternText$PatternReader" "PatternText$PatternReader" "stepDays" "I" : Cond) ∈ ga_tbl := ga_m (List.mem_of_getElem? (i := 82) (by decide +kernel)) rfl
theorem kw_83 : (Cond.soleField "PatternText$PatternReader" "stepDays" : Cond) ∈ ga_tbl := ga_m (List.mem_of_getElem? (i := 83) (by decide +kernel)) rfl
theorem kw_84 : (Cond.lays "PatternText$PatternReader" "PatternText$PatternReader" "monthsLeftOut" "I" : Cond) ∈ ga_tbl := ga_m (List.mem_of_getElem? (i := 84) (by decide +kernel)) rfl
theorem kw_85 : (Cond.soleField "PatternText$PatternReader" "monthsLeftOut" : Cond) ∈ ga_tbl := ga_m (List.mem_of_getElem? (i := 85) (by decide +kernel)) rfl
theorem kw_86 : (Cond.lays "PatternText$PatternReader" "PatternText$PatternReader" "joined" "I" : Cond) ∈ ga_tbl := ga_m (List.mem_of_getElem? (i := 86) (by decide +kernel)) rfl
theorem kw_87 : (Cond.soleField "PatternText$PatternReader" "joined" : Cond) ∈ ga_tbl := ga_m (List.mem_of_getElem? (i := 87) (by decide +kernel)) rfl
theorem kw_88 : (Cond.lays "PatternText$PatternReader" "PatternText$PatternReader" "volume" "I" : Cond) ∈ ga_tbl := ga_m (List.mem_of_getElem? (i := 88) (by decide +kernel)) rfl
theorem kw_89 : (Cond.soleField "PatternText$PatternReader" "volume" : Cond) ∈ ga_tbl := ga_m (List.mem_of_getElem? (i := 89) (by decide +kernel)) rfl
theorem kw_90 : (Cond.lays "PatternText$PatternReader" "PatternText$PatternReader" "restarts" "Z" : Cond) ∈ ga_tbl := ga_m (List.mem_of_getElem? (i := 90) (by decide +kernel)) rfl
theorem kw_91 : (Cond.soleField "PatternText$PatternReader" "restarts" : Cond) ∈ ga_tbl := ga_m (List.mem_of_getElem? (i := 91) (by decide +kernel)) rfl
theorem kw_92 : (Cond.superclass "PatternText$PatternReader" "java/lang/Object" : Cond) ∈ ga_tbl := ga_m (List.mem_of_getElem? (i := 92) (by decide +kernel)) rfl
theorem kw_93 : (Cond.arrayClass .int : Cond) ∈ ga_tbl := ga_m (List.mem_of_getElem? (i := 93) (by decide +kernel)) rfl
theorem kw_94 : (Cond.classLink "PatternText" 16 "PatternText$Pattern" : Cond) ∈ ga_tbl := ga_m (List.mem_of_getElem? (i := 94) (by decide +kernel)) rfl
theorem kl_95 : (Cond.arrayOver (.object "PatternText$Pattern") : Cond) ∈ lw_tbl := List.mem_of_getElem? (i := 95) (by decide +kernel)
theorem kw_96 : (Cond.classLink "PatternText" 22 "PatternText$Holidays" : Cond) ∈ ga_tbl := ga_m (List.mem_of_getElem? (i := 96) (by decide +kernel)) rfl
theorem kw_97 : (Cond.instantiable "PatternText$Holidays" 2 : Cond) ∈ ga_tbl := ga_m (List.mem_of_getElem? (i := 97) (by decide +kernel)) rfl
theorem kl_98 : (Cond.methodLinkNest "PatternText" 24 ⟨"PatternText$Holidays", "<init>", "()V"⟩ "PatternText" : Cond) ∈ lw_tbl := List.mem_of_getElem? (i := 98) (by decide +kernel)
theorem kw_99 : (Cond.instanceMethod ⟨"PatternText$Holidays", "<init>", "()V"⟩ : Cond) ∈ ga_tbl := ga_m (List.mem_of_getElem? (i := 99) (by decide +kernel)) rfl
theorem kw_100 : (Cond.code ⟨"PatternText$Holidays", "<init>", "()V"⟩ prog_2_method_1_code 1 none : Cond) ∈ ga_tbl := ga_m (List.mem_of_getElem? (i := 100) (by decide +kernel)) rfl
theorem kw_101 : (Cond.methodLink "PatternText$Holidays" 3 ⟨"java/lang/Object", "<init>", "()V"⟩ : Cond) ∈ ga_tbl := ga_m (List.mem_of_getElem? (i := 101) (by decide +kernel)) rfl
theorem kw_102 : (Cond.fieldLink "PatternText$Holidays" 9 "PatternText$Holidays" "days" "[I" : Cond) ∈ ga_tbl := ga_m (List.mem_of_getElem? (i := 102) (by decide +kernel)) rfl
theorem kw_103 : (Cond.fieldLink "PatternText$Holidays" 15 "PatternText$Holidays" "count" "I" : Cond) ∈ ga_tbl := ga_m (List.mem_of_getElem? (i := 103) (by decide +kernel)) rfl
theorem kl_104 : (Cond.fieldLinkNest "PatternText" 116 "PatternText$Holidays" "count" "I" "PatternText" : Cond) ∈ lw_tbl := List.mem_of_getElem? (i := 104) (by decide +kernel)
theorem kw_105 : (Cond.laysFinal "PatternText$Holidays" "PatternText$Holidays" "days" "[I" : Cond) ∈ ga_tbl := ga_m (List.mem_of_getElem? (i := 105) (by decide +kernel)) rfl
theorem kw_106 : (Cond.soleField "PatternText$Holidays" "days" : Cond) ∈ ga_tbl := ga_m (List.mem_of_getElem? (i := 106) (by decide +kernel)) rfl
theorem kw_107 : (Cond.lays "PatternText$Holidays" "PatternText$Holidays" "count" "I" : Cond) ∈ ga_tbl := ga_m (List.mem_of_getElem? (i := 107) (by decide +kernel)) rfl
theorem kw_108 : (Cond.soleField "PatternText$Holidays" "count" : Cond) ∈ ga_tbl := ga_m (List.mem_of_getElem? (i := 108) (by decide +kernel)) rfl
theorem kw_109 : (Cond.superclass "PatternText$Holidays" "java/lang/Object" : Cond) ∈ ga_tbl := ga_m (List.mem_of_getElem? (i := 109) (by decide +kernel)) rfl
theorem kw_110 : (Cond.classLink "PatternText" 29 "PatternText$IssueList" : Cond) ∈ ga_tbl := ga_m (List.mem_of_getElem? (i := 110) (by decide +kernel)) rfl
theorem kw_111 : (Cond.instantiable "PatternText$IssueList" 10 : Cond) ∈ ga_tbl := ga_m (List.mem_of_getElem? (i := 111) (by decide +kernel)) rfl
theorem kl_112 : (Cond.methodLinkNest "PatternText" 31 ⟨"PatternText$IssueList", "<init>", "()V"⟩ "PatternText" : Cond) ∈ lw_tbl := List.mem_of_getElem? (i := 112) (by decide +kernel)
theorem kw_113 : (Cond.instanceMethod ⟨"PatternText$IssueList", "<init>", "()V"⟩ : Cond) ∈ ga_tbl := ga_m (List.mem_of_getElem? (i := 113) (by decide +kernel)) rfl
theorem kw_114 : (Cond.code ⟨"PatternText$IssueList", "<init>", "()V"⟩ prog_3_method_1_code 1 none : Cond) ∈ ga_tbl := ga_m (List.mem_of_getElem? (i := 114) (by decide +kernel)) rfl
theorem kw_115 : (Cond.methodLink "PatternText$IssueList" 3 ⟨"java/lang/Object", "<init>", "()V"⟩ : Cond) ∈ ga_tbl := ga_m (List.mem_of_getElem? (i := 115) (by decide +kernel)) rfl
theorem kw_116 : (Cond.fieldLink "PatternText$IssueList" 9 "PatternText$IssueList" "steps" "[I" : Cond) ∈ ga_tbl := ga_m (List.mem_of_getElem? (i := 116) (by decide +kernel)) rfl
theorem kw_117 : (Cond.fieldLink "PatternText$IssueList" 15 "PatternText$IssueList" "expected" "[I" : Cond) ∈ ga_tbl := ga_m (List.mem_of_getElem? (i := 117) (by decide +kernel)) rfl
theorem kl_118 : (Cond.fieldLinkNest "PatternText" 108 "PatternText$IssueList" "expected" "[I" "PatternText" : Cond) ∈ lw_tbl := List.mem_of_getElem? (i := 118) (by decide +kernel)
theorem kw_119 : (Cond.fieldLink "PatternText$IssueList" 18 "PatternText$IssueList" "lastNumbers" "[I" : Cond) ∈ ga_tbl := ga_m (List.mem_of_getElem? (i := 119) (by decide +kernel)) rfl
theorem kw_120 : (Cond.fieldLink "PatternText$IssueList" 21 "PatternText$IssueList" "numbers" "[I" : Cond) ∈ ga_tbl := ga_m (List.mem_of_getElem? (i := 120) (by decide +kernel)) rfl
theorem kl_121 : (Cond.fieldLinkNest "PatternText" 94 "PatternText$IssueList" "numbers" "[I" "PatternText" : Cond) ∈ lw_tbl := List.mem_of_getElem? (i := 121) (by decide +kernel)
theorem kw_122 : (Cond.fieldLink "PatternText$IssueList" 24 "PatternText$IssueList" "told" "[I" : Cond) ∈ ga_tbl := ga_m (List.mem_of_getElem? (i := 122) (by decide +kernel)) rfl
theorem kl_123 : (Cond.fieldLinkNest "PatternText" 90 "PatternText$IssueList" "told" "[I" "PatternText" : Cond) ∈ lw_tbl := List.mem_of_getElem? (i := 123) (by decide +kernel)
theorem kw_124 : (Cond.fieldLink "PatternText$IssueList" 27 "PatternText$IssueList" "toldSecond" "[I" : Cond) ∈ ga_tbl := ga_m (List.mem_of_getElem? (i := 124) (by decide +kernel)) rfl
theorem kl_125 : (Cond.fieldLinkNest "PatternText" 100 "PatternText$IssueList" "toldSecond" "[I" "PatternText" : Cond) ∈ lw_tbl := List.mem_of_getElem? (i := 125) (by decide +kernel)
theorem kw_126 : (Cond.fieldLink "PatternText$IssueList" 30 "PatternText$IssueList" "volumes" "[I" : Cond) ∈ ga_tbl := ga_m (List.mem_of_getElem? (i := 126) (by decide +kernel)) rfl
theorem kl_127 : (Cond.fieldLinkNest "PatternText" 97 "PatternText$IssueList" "volumes" "[I" "PatternText" : Cond) ∈ lw_tbl := List.mem_of_getElem? (i := 127) (by decide +kernel)
theorem kw_128 : (Cond.fieldLink "PatternText$IssueList" 33 "PatternText$IssueList" "patterns" "[I" : Cond) ∈ ga_tbl := ga_m (List.mem_of_getElem? (i := 128) (by decide +kernel)) rfl
theorem kl_129 : (Cond.fieldLinkNest "PatternText" 103 "PatternText$IssueList" "patterns" "[I" "PatternText" : Cond) ∈ lw_tbl := List.mem_of_getElem? (i := 129) (by decide +kernel)
theorem kw_130 : (Cond.fieldLink "PatternText$IssueList" 36 "PatternText$IssueList" "comeOn" "[I" : Cond) ∈ ga_tbl := ga_m (List.mem_of_getElem? (i := 130) (by decide +kernel)) rfl
theorem kl_131 : (Cond.fieldLinkNest "PatternText" 119 "PatternText$IssueList" "comeOn" "[I" "PatternText" : Cond) ∈ lw_tbl := List.mem_of_getElem? (i := 131) (by decide +kernel)
theorem kw_132 : (Cond.fieldLink "PatternText$IssueList" 39 "PatternText$IssueList" "size" "I" : Cond) ∈ ga_tbl := ga_m (List.mem_of_getElem? (i := 132) (by decide +kernel)) rfl
theorem kl_133 : (Cond.fieldLinkNest "PatternText" 77 "PatternText$IssueList" "size" "I" "PatternText" : Cond) ∈ lw_tbl := List.mem_of_getElem? (i := 133) (by decide +kernel)
theorem kw_134 : (Cond.laysFinal "PatternText$IssueList" "PatternText$IssueList" "steps" "[I" : Cond) ∈ ga_tbl := ga_m (List.mem_of_getElem? (i := 134) (by decide +kernel)) rfl
theorem kw_135 : (Cond.soleField "PatternText$IssueList" "steps" : Cond) ∈ ga_tbl := ga_m (List.mem_of_getElem? (i := 135) (by decide +kernel)) rfl
theorem kw_136 : (Cond.laysFinal "PatternText$IssueList" "PatternText$IssueList" "expected" "[I" : Cond) ∈ ga_tbl := ga_m (List.mem_of_getElem? (i := 136) (by decide +kernel)) rfl
theorem kw_137 : (Cond.soleField "PatternText$IssueList" "expected" : Cond) ∈ ga_tbl := ga_m (List.mem_of_getElem? (i := 137) (by decide +kernel)) rfl
theorem kw_138 : (Cond.laysFinal "PatternText$IssueList" "PatternText$IssueList" "lastNumbers" "[I" : Cond) ∈ ga_tbl := ga_m (List.mem_of_getElem? (i := 138) (by decide +kernel)) rfl
theorem kw_139 : (Cond.soleField "PatternText$IssueList" "lastNumbers" : Cond) ∈ ga_tbl := ga_m (List.mem_of_getElem? (i := 139) (by decide +kernel)) rfl
theorem kw_140 : (Cond.laysFinal "PatternText$IssueList" "PatternText$IssueList" "numbers" "[I" : Cond) ∈ ga_tbl := ga_m (List.mem_of_getElem? (i := 140) (by decide +kernel)) rfl
theorem kw_141 : (Cond.soleField "PatternText$IssueList" "numbers" : Cond) ∈ ga_tbl := ga_m (List.mem_of_getElem? (i := 141) (by decide +kernel)) rfl
theorem kw_142 : (Cond.laysFinal "PatternText$IssueList" "PatternText$IssueList" "told" "[I" : Cond) ∈ ga_tbl := ga_m (List.mem_of_getElem? (i := 142) (by decide +kernel)) rfl
theorem kw_143 : (Cond.soleField "PatternText$IssueList" "told" : Cond) ∈ ga_tbl := ga_m (List.mem_of_getElem? (i := 143) (by decide +kernel)) rfl
theorem kw_144 : (Cond.laysFinal "PatternText$IssueList" "PatternText$IssueList" "toldSecond" "[I" : Cond) ∈ ga_tbl := ga_m (List.mem_of_getElem? (i := 144) (by decide +kernel)) rfl
theorem kw_145 : (Cond.soleField "PatternText$IssueList" "toldSecond" : Cond) ∈ ga_tbl := ga_m (List.mem_of_getElem? (i := 145) (by decide +kernel)) rfl
theorem kw_146 : (Cond.laysFinal "PatternText$IssueList" "PatternText$IssueList" "volumes" "[I" : Cond) ∈ ga_tbl := ga_m (List.mem_of_getElem? (i := 146) (by decide +kernel)) rfl
theorem kw_147 : (Cond.soleField "PatternText$IssueList" "volumes" : Cond) ∈ ga_tbl := ga_m (List.mem_of_getElem? (i := 147) (by decide +kernel)) rfl
theorem kw_148 : (Cond.laysFinal "PatternText$IssueList" "PatternText$IssueList" "patterns" "[I" : Cond) ∈ ga_tbl := ga_m (List.mem_of_getElem? (i := 148) (by decide +kernel)) rfl
theorem kw_149 : (Cond.soleField "PatternText$IssueList" "patterns" : Cond) ∈ ga_tbl := ga_m (List.mem_of_getElem? (i := 149) (by decide +kernel)) rfl
theorem kw_150 : (Cond.laysFinal "PatternText$IssueList" "PatternText$IssueList" "comeOn" "[I" : Cond) ∈ ga_tbl := ga_m (List.mem_of_getElem? (i := 150) (by decide +kernel)) rfl
theorem kw_151 : (Cond.soleField "PatternText$IssueList" "comeOn" : Cond) ∈ ga_tbl := ga_m (List.mem_of_getElem? (i := 151) (by decide +kernel)) rfl
theorem kw_152 : (Cond.lays "PatternText$IssueList" "PatternText$IssueList" "size" "I" : Cond) ∈ ga_tbl := ga_m (List.mem_of_getElem? (i := 152) (by decide +kernel)) rfl
theorem kw_153 : (Cond.soleField "PatternText$IssueList" "size" : Cond) ∈ ga_tbl := ga_m (List.mem_of_getElem? (i := 153) (by decide +kernel)) rfl
theorem kw_154 : (Cond.superclass "PatternText$IssueList" "java/lang/Object" : Cond) ∈ ga_tbl := ga_m (List.mem_of_getElem? (i := 154) (by decide +kernel)) rfl
theorem kw_155 : (Cond.fieldLink "PatternText" 10 "PatternText" "reader" "LPatternText$PatternReader;" : Cond) ∈ ga_tbl := ga_m (List.mem_of_getElem? (i := 155) (by decide +kernel)) rfl
theorem kw_156 : (Cond.fieldLink "PatternText" 18 "PatternText" "patterns" "[LPatternText$Pattern;" : Cond) ∈ ga_tbl := ga_m (List.mem_of_getElem? (i := 156) (by decide +kernel)) rfl
theorem kw_157 : (Cond.fieldLink "PatternText" 25 "PatternText" "holidays" "LPatternText$Holidays;" : Cond) ∈ ga_tbl := ga_m (List.mem_of_getElem? (i := 157) (by decide +kernel)) rfl
theorem kw_158 : (Cond.fieldLink "PatternText" 32 "PatternText" "list" "LPatternText$IssueList;" : Cond) ∈ ga_tbl := ga_m (List.mem_of_getElem? (i := 158) (by decide +kernel)) rfl
theorem kw_159 : (Cond.fieldLink "PatternText" 36 "PatternText" "patternCount" "I" : Cond) ∈ ga_tbl := ga_m (List.mem_of_getElem? (i := 159) (by decide +kernel)) rfl
theorem kw_160 : (Cond.fieldLink "PatternText" 40 "PatternText" "printed" "LPatternText$Pattern;" : Cond) ∈ ga_tbl := ga_m (List.mem_of_getElem? (i := 160) (by decide +kernel)) rfl
theorem kw_161 : (Cond.laysFinal "PatternText" "PatternText" "reader" "LPatternText$PatternReader;" : Cond) ∈ ga_tbl := ga_m (List.mem_of_getElem? (i := 161) (by decide +kernel)) rfl
theorem kw_162 : (Cond.soleField "PatternText" "reader" : Cond) ∈ ga_tbl := ga_m (List.mem_of_getElem? (i := 162) (by decide +kernel)) rfl
theorem kw_163 : (Cond.laysFinal "PatternText" "PatternText" "patterns" "[LPatternText$Pattern;" : Cond) ∈ ga_tbl := ga_m (List.mem_of_getElem? (i := 163) (by decide +kernel)) rfl
theorem kw_164 : (Cond.soleField "PatternText" "patterns" : Cond) ∈ ga_tbl := ga_m (List.mem_of_getElem? (i := 164) (by decide +kernel)) rfl
theorem kw_165 : (Cond.laysFinal "PatternText" "PatternText" "holidays" "LPatternText$Holidays;" : Cond) ∈ ga_tbl := ga_m (List.mem_of_getElem? (i := 165) (by decide +kernel)) rfl
theorem kw_166 : (Cond.soleField "PatternText" "holidays" : Cond) ∈ ga_tbl := ga_m (List.mem_of_getElem? (i := 166) (by decide +kernel)) rfl
theorem kw_167 : (Cond.laysFinal "PatternText" "PatternText" "list" "LPatternText$IssueList;" : Cond) ∈ ga_tbl := ga_m (List.mem_of_getElem? (i := 167) (by decide +kernel)) rfl
theorem kw_168 : (Cond.soleField "PatternText" "list" : Cond) ∈ ga_tbl := ga_m (List.mem_of_getElem? (i := 168) (by decide +kernel)) rfl
theorem kw_169 : (Cond.lays "PatternText" "PatternText" "patternCount" "I" : Cond) ∈ ga_tbl := ga_m (List.mem_of_getElem? (i := 169) (by decide +kernel)) rfl
theorem kw_170 : (Cond.soleField "PatternText" "patternCount" : Cond) ∈ ga_tbl := ga_m (List.mem_of_getElem? (i := 170) (by decide +kernel)) rfl
theorem kw_171 : (Cond.lays "PatternText" "PatternText" "printed" "LPatternText$Pattern;" : Cond) ∈ ga_tbl := ga_m (List.mem_of_getElem? (i := 171) (by decide +kernel)) rfl
theorem kw_172 : (Cond.soleField "PatternText" "printed" : Cond) ∈ ga_tbl := ga_m (List.mem_of_getElem? (i := 172) (by decide +kernel)) rfl
theorem kw_173 : (Cond.superclass "PatternText" "java/lang/Object" : Cond) ∈ ga_tbl := ga_m (List.mem_of_getElem? (i := 173) (by decide +kernel)) rfl
theorem kw_174 : (Cond.methodLink "PatternTextLaw" 19 ⟨"PatternText", "sign", "(I)V"⟩ : Cond) ∈ ga_tbl := ga_m (List.mem_of_getElem? (i := 174) (by decide +kernel)) rfl
theorem kw_175 : (Cond.instanceMethod ⟨"PatternText", "sign", "(I)V"⟩ : Cond) ∈ ga_tbl := ga_m (List.mem_of_getElem? (i := 175) (by decide +kernel)) rfl
theorem kw_176 : (Cond.selects "PatternText" ⟨"PatternText", "sign", "(I)V"⟩ ⟨"PatternText", "sign", "(I)V"⟩ : Cond) ∈ ga_tbl := ga_m (List.mem_of_getElem? (i := 176) (by decide +kernel)) rfl
theorem kw_177 : (Cond.code ⟨"PatternText", "sign", "(I)V"⟩ prog_1_method_2_code 2 none : Cond) ∈ ga_tbl := ga_m (List.mem_of_getElem? (i := 177) (by decide +kernel)) rfl
theorem kw_178 : (Cond.methodLink "PatternText" 44 ⟨"PatternText$PatternReader", "collect", "(I)V"⟩ : Cond) ∈ ga_tbl := ga_m (List.mem_of_getElem? (i := 178) (by decide +kernel)) rfl
theorem kw_179 : (Cond.instanceMethod ⟨"PatternText$PatternReader", "collect", "(I)V"⟩ : Cond) ∈ ga_tbl := ga_m (List.mem_of_getElem? (i := 179) (by decide +kernel)) rfl
theorem kw_180 : (Cond.selects "PatternText$PatternReader" ⟨"PatternText$PatternReader", "collect", "(I)V"⟩ ⟨"PatternText$PatternReader", "collect", "(I)V"⟩ : Cond) ∈ ga_tbl := ga_m (List.mem_of_getElem? (i := 180) (by decide +kernel)) rfl
theorem kw_181 : (Cond.code ⟨"PatternText$PatternReader", "collect", "(I)V"⟩ prog_5_method_2_code 2 none : Cond) ∈ ga_tbl := ga_m (List.mem_of_getElem? (i := 181) (by decide +kernel)) rfl
theorem kw_182 : (Cond.methodLink "PatternTextLaw" 24 ⟨"PatternText", "read", "()I"⟩ : Cond) ∈ ga_tbl := ga_m (List.mem_of_getElem? (i := 182) (by decide +kernel)) rfl
theorem kw_183 : (Cond.instanceMethod ⟨"PatternText", "read", "()I"⟩ : Cond) ∈ ga_tbl := ga_m (List.mem_of_getElem? (i := 183) (by decide +kernel)) rfl
theorem kw_184 : (Cond.selects "PatternText" ⟨"PatternText", "read", "()I"⟩ ⟨"PatternText", "read", "()I"⟩ : Cond) ∈ ga_tbl := ga_m (List.mem_of_getElem? (i := 184) (by decide +kernel)) rfl
theorem kw_185 : (Cond.code ⟨"PatternText", "read", "()I"⟩ prog_1_method_3_code 4 (some .int) : Cond) ∈ ga_tbl := ga_m (List.mem_of_getElem? (i := 185) (by decide +kernel)) rfl
theorem kw_186 : (Cond.methodLink "PatternText" 48 ⟨"PatternText$PatternReader", "understand", "()Z"⟩ : Cond) ∈ ga_tbl := ga_m (List.mem_of_getElem? (i := 186) (by decide +kernel)) rfl
theorem kw_187 : (Cond.instanceMethod ⟨"PatternText$PatternReader", "understand", "()Z"⟩ : Cond) ∈ ga_tbl := ga_m (List.mem_of_getElem? (i := 187) (by decide +kernel)) rfl
theorem kw_188 : (Cond.selects "PatternText$PatternReader" ⟨"PatternText$PatternReader", "understand", "()Z"⟩ ⟨"PatternText$PatternReader", "understand", "()Z"⟩ : Cond) ∈ ga_tbl := ga_m (List.mem_of_getElem? (i := 188) (by decide +kernel)) rfl
theorem kw_189 : (Cond.code ⟨"PatternText$PatternReader", "understand", "()Z"⟩ prog_5_method_5_code 1 (some .boolean) : Cond) ∈ ga_tbl := ga_m (List.mem_of_getElem? (i := 189) (by decide +kernel)) rfl
theorem kw_190 : (Cond.methodLink "PatternText$PatternReader" 52 ⟨"PatternText$PatternReader", "takeHowOften", "()Z"⟩ : Cond) ∈ ga_tbl := ga_m (List.mem_of_getElem? (i := 190) (by decide +kernel)) rfl
theorem kl_191 : (Cond.privateMethod ⟨"PatternText$PatternReader", "takeHowOften", "()Z"⟩ : Cond) ∈ lw_tbl := List.mem_of_getElem? (i := 191) (by decide +kernel)
theorem kw_192 : (Cond.instanceMethod ⟨"PatternText$PatternReader", "takeHowOften", "()Z"⟩ : Cond) ∈ ga_tbl := ga_m (List.mem_of_getElem? (i := 192) (by decide +kernel)) rfl
theorem kw_193 : (Cond.code ⟨"PatternText$PatternReader", "takeHowOften", "()Z"⟩ prog_5_method_6_code 1 (some .boolean) : Cond) ∈ ga_tbl := ga_m (List.mem_of_getElem? (i := 193) (by decide +kernel)) rfl
theorem kl_194 : (Cond.stringRef "PatternText$PatternReader" 62 "every" : Cond) ∈ lw_tbl := List.mem_of_getElem? (i := 194) (by decide +kernel)
theorem kw_195 : (Cond.methodLink "PatternText$PatternReader" 64 ⟨"PatternText$PatternReader", "takeWord", "(Ljava/lang/String;)Z"⟩ : Cond) ∈ ga_tbl := ga_m (List.mem_of_getElem? (i := 195) (by decide +kernel)) rfl
theorem kl_196 : (Cond.privateMethod ⟨"PatternText$PatternReader", "takeWord", "(Ljava/lang/String;)Z"⟩ : Cond) ∈ lw_tbl := List.mem_of_getElem? (i := 196) (by decide +kernel)
theorem kw_197 : (Cond.instanceMethod ⟨"PatternText$PatternReader", "takeWord", "(Ljava/lang/String;)Z"⟩ : Cond) ∈ ga_tbl := ga_m (List.mem_of_getElem? (i := 197) (by decide +kernel)) rfl
theorem kw_198 : (Cond.code ⟨"PatternText$PatternReader", "takeWord", "(Ljava/lang/String;)Z"⟩ prog_5_method_12_code 4 (some .boolean) : Cond) ∈ ga_tbl := ga_m (List.mem_of_getElem? (i := 198) (by decide +kernel)) rfl
theorem kw_199 : (Cond.methodLink "PatternText$PatternReader" 97 ⟨"java/lang/String", "length", "()I"⟩ : Cond) ∈ ga_tbl := ga_m (List.mem_of_getElem? (i := 199) (by decide +kernel)) rfl
theorem kw_200 : (Cond.instanceMethod ⟨"java/lang/String", "length", "()I"⟩ : Cond) ∈ ga_tbl := ga_m (List.mem_of_getElem? (i := 200) (by decide +kernel)) rfl
theorem kw_201 : (Cond.selects "java/lang/String" ⟨"java/lang/String", "length", "()I"⟩ ⟨"java/lang/String", "length", "()I"⟩ : Cond) ∈ ga_tbl := ga_m (List.mem_of_getElem? (i := 201) (by decide +kernel)) rfl
theorem kw_202 : (Cond.code ⟨"java/lang/String", "length", "()I"⟩ prog_12_method_54_code 1 (some .int) : Cond) ∈ ga_tbl := ga_m (List.mem_of_getElem? (i := 202) (by decide +kernel)) rfl
theorem kw_203 : (Cond.methodLink "java/lang/String" 335 ⟨"java/lang/String", "coder", "()B"⟩ : Cond) ∈ ga_tbl := ga_m (List.mem_of_getElem? (i := 203) (by decide +kernel)) rfl
theorem kw_204 : (Cond.instanceMethod ⟨"java/lang/String", "coder", "()B"⟩ : Cond) ∈ ga_tbl := ga_m (List.mem_of_getElem? (i := 204) (by decide +kernel)) rfl
theorem kw_205 : (Cond.selects "java/lang/String" ⟨"java/lang/String", "coder", "()B"⟩ ⟨"java/lang/String", "coder", "()B"⟩ : Cond) ∈ ga_tbl := ga_m (List.mem_of_getElem? (i := 205) (by decide +kernel)) rfl
theorem kw_206 : (Cond.code ⟨"java/lang/String", "coder", "()B"⟩ prog_12_method_152_code 1 (some .byte) : Cond) ∈ ga_tbl := ga_m (List.mem_of_getElem? (i := 206) (by decide +kernel)) rfl
theorem kw_207 : (Cond.fieldLink "java/lang/String" 38 "java/lang/String" "COMPACT_STRINGS" "Z" : Cond) ∈ ga_tbl := ga_m (List.mem_of_getElem? (i := 207) (by decide +kernel)) rfl
theorem kl_208 : (Cond.laysStatic "java/lang/String" "COMPACT_STRINGS" "Z" : Cond) ∈ lw_tbl := List.mem_of_getElem? (i := 208) (by decide +kernel)
theorem kw_209 : (Cond.methodLink "PatternText$PatternReader" 101 ⟨"PatternText$PatternReader", "signAt", "(I)I"⟩ : Cond) ∈ ga_tbl := ga_m (List.mem_of_getElem? (i := 209) (by decide +kernel)) rfl
theorem kl_210 : (Cond.privateMethod ⟨"PatternText$PatternReader", "signAt", "(I)I"⟩ : Cond) ∈ lw_tbl := List.mem_of_getElem? (i := 210) (by decide +kernel)
theorem kw_211 : (Cond.instanceMethod ⟨"PatternText$PatternReader", "signAt", "(I)I"⟩ : Cond) ∈ ga_tbl := ga_m (List.mem_of_getElem? (i := 211) (by decide +kernel)) rfl
theorem kw_212 : (Cond.code ⟨"PatternText$PatternReader", "signAt", "(I)I"⟩ prog_5_method_15_code 2 (some .int) : Cond) ∈ ga_tbl := ga_m (List.mem_of_getElem? (i := 212) (by decide +kernel)) rfl
theorem kw_213 : (Cond.methodLink "PatternText$PatternReader" 105 ⟨"PatternText$PatternReader", "isLetter", "(I)Z"⟩ : Cond) ∈ ga_tbl := ga_m (List.mem_of_getElem? (i := 213) (by decide +kernel)) rfl
theorem kw_214 : (Cond.static ⟨"PatternText$PatternReader", "isLetter", "(I)Z"⟩ : Cond) ∈ ga_tbl := ga_m (List.mem_of_getElem? (i := 214) (by decide +kernel)) rfl
theorem kw_215 : (Cond.code ⟨"PatternText$PatternReader", "isLetter", "(I)Z"⟩ prog_5_method_17_code 1 (some .boolean) : Cond) ∈ ga_tbl := ga_m (List.mem_of_getElem? (i := 215) (by decide +kernel)) rfl
theorem kw_216 : (Cond.methodLink "PatternText$PatternReader" 109 ⟨"java/lang/String", "charAt", "(I)C"⟩ : Cond) ∈ ga_tbl := ga_m (List.mem_of_getElem? (i := 216) (by decide +kernel)) rfl
theorem kw_217 : (Cond.instanceMethod ⟨"java/lang/String", "charAt", "(I)C"⟩ : Cond) ∈ ga_tbl := ga_m (List.mem_of_getElem? (i := 217) (by decide +kernel)) rfl
theorem kw_218 : (Cond.selects "java/lang/String" ⟨"java/lang/String", "charAt", "(I)C"⟩ ⟨"java/lang/String", "charAt", "(I)C"⟩ : Cond) ∈ ga_tbl := ga_m (List.mem_of_getElem? (i := 218) (by decide +kernel)) rfl
theorem kw_219 : (Cond.code ⟨"java/lang/String", "charAt", "(I)C"⟩ prog_12_method_56_code 2 (some .char) : Cond) ∈ ga_tbl := ga_m (List.mem_of_getElem? (i := 219) (by decide +kernel)) rfl
theorem kw_220 : (Cond.methodLink "java/lang/String" 492 ⟨"java/lang/String", "isLatin1", "()Z"⟩ : Cond) ∈ ga_tbl := ga_m (List.mem_of_getElem? (i := 220) (by decide +kernel)) rfl
theorem kw_221 : (Cond.instanceMethod ⟨"java/lang/String", "isLatin1", "()Z"⟩ : Cond) ∈ ga_tbl := ga_m (List.mem_of_getElem? (i := 221) (by decide +kernel)) rfl
theorem kw_222 : (Cond.selects "java/lang/String" ⟨"java/lang/String", "isLatin1", "()Z"⟩ ⟨"java/lang/String", "isLatin1", "()Z"⟩ : Cond) ∈ ga_tbl := ga_m (List.mem_of_getElem? (i := 222) (by decide +kernel)) rfl
theorem kw_223 : (Cond.code ⟨"java/lang/String", "isLatin1", "()Z"⟩ prog_12_method_154_code 1 (some .boolean) : Cond) ∈ ga_tbl := ga_m (List.mem_of_getElem? (i := 223) (by decide +kernel)) rfl
theorem kw_224 : (Cond.methodLink "java/lang/String" 495 ⟨"java/lang/StringLatin1", "charAt", "([BI)C"⟩ : Cond) ∈ ga_tbl := ga_m (List.mem_of_getElem? (i := 224) (by decide +kernel)) rfl
theorem kw_225 : (Cond.static ⟨"java/lang/StringLatin1", "charAt", "([BI)C"⟩ : Cond) ∈ ga_tbl := ga_m (List.mem_of_getElem? (i := 225) (by decide +kernel)) rfl
theorem kw_226 : (Cond.code ⟨"java/lang/StringLatin1", "charAt", "([BI)C"⟩ prog_13_method_2_code 2 (some .char) : Cond) ∈ ga_tbl := ga_m (List.mem_of_getElem? (i := 226) (by decide +kernel)) rfl
theorem kw_227 : (Cond.methodLink "java/lang/StringLatin1" 9 ⟨"java/lang/String", "checkIndex", "(II)V"⟩ : Cond) ∈ ga_tbl := ga_m (List.mem_of_getElem? (i := 227) (by decide +kernel)) rfl
theorem kw_228 : (Cond.static ⟨"java/lang/String", "checkIndex", "(II)V"⟩ : Cond) ∈ ga_tbl := ga_m (List.mem_of_getElem? (i := 228) (by decide +kernel)) rfl
theorem kw_229 : (Cond.code ⟨"java/lang/String", "checkIndex", "(II)V"⟩ prog_12_method_155_code 2 none : Cond) ∈ ga_tbl := ga_m (List.mem_of_getElem? (i := 229) (by decide +kernel)) rfl
theorem kw_230 : (Cond.fieldLink "java/lang/String" 1053 "jdk/internal/util/Preconditions" "SIOOBE_FORMATTER" "Ljava/util/function/BiFunction;" : Cond) ∈ ga_tbl := ga_m (List.mem_of_getElem? (i := 230) (by decide +kernel)) rfl
theorem kl_231 : (Cond.laysStatic "jdk/internal/util/Preconditions" "SIOOBE_FORMATTER" "Ljava/util/function/BiFunction;" : Cond) ∈ lw_tbl := List.mem_of_getElem? (i := 231) (by decide +kernel)
theorem kw_232 : (Cond.methodLink "java/lang/String" 1059 ⟨"jdk/internal/util/Preconditions", "checkIndex", "(IILjava/util/function/BiFunction;)I"⟩ : Cond) ∈ ga_tbl := ga_m (List.mem_of_getElem? (i := 232) (by decide +kernel)) rfl
theorem kw_233 : (Cond.static ⟨"jdk/internal/util/Preconditions", "checkIndex", "(IILjava/util/function/BiFunction;)I"⟩ : Cond) ∈ ga_tbl := ga_m (List.mem_of_getElem? (i := 233) (by decide +kernel)) rfl
theorem kw_234 : (Cond.code ⟨"jdk/internal/util/Preconditions", "checkIndex", "(IILjava/util/function/BiFunction;)I"⟩ prog_17_method_11_code 3 (some .int) : Cond) ∈ ga_tbl := ga_m (List.mem_of_getElem? (i := 234) (by decide +kernel)) rfl
theorem kw_235 : (Cond.methodLink "java/lang/String" 498 ⟨"java/lang/StringUTF16", "charAt", "([BI)C"⟩ : Cond) ∈ ga_tbl := ga_m (List.mem_of_getElem? (i := 235) (by decide +kernel)) rfl
theorem kw_236 : (Cond.static ⟨"java/lang/StringUTF16", "charAt", "([BI)C"⟩ : Cond) ∈ ga_tbl := ga_m (List.mem_of_getElem? (i := 236) (by decide +kernel)) rfl
theorem kw_237 : (Cond.code ⟨"java/lang/StringUTF16", "charAt", "([BI)C"⟩ prog_14_method_83_code 2 (some .char) : Cond) ∈ ga_tbl := ga_m (List.mem_of_getElem? (i := 237) (by decide +kernel)) rfl
theorem kw_238 : (Cond.methodLink "java/lang/StringUTF16" 67 ⟨"java/lang/StringUTF16", "checkIndex", "(I[B)V"⟩ : Cond) ∈ ga_tbl := ga_m (List.mem_of_getElem? (i := 238) (by decide +kernel)) rfl
theorem kw_239 : (Cond.static ⟨"java/lang/StringUTF16", "checkIndex", "(I[B)V"⟩ : Cond) ∈ ga_tbl := ga_m (List.mem_of_getElem? (i := 239) (by decide +kernel)) rfl
theorem kw_240 : (Cond.code ⟨"java/lang/StringUTF16", "checkIndex", "(I[B)V"⟩ prog_14_method_91_code 2 none : Cond) ∈ ga_tbl := ga_m (List.mem_of_getElem? (i := 240) (by decide +kernel)) rfl
theorem kw_241 : (Cond.methodLink "java/lang/StringUTF16" 48 ⟨"java/lang/StringUTF16", "length", "([B)I"⟩ : Cond) ∈ ga_tbl := ga_m (List.mem_of_getElem? (i := 241) (by decide +kernel)) rfl
theorem kw_242 : (Cond.static ⟨"java/lang/StringUTF16", "length", "([B)I"⟩ : Cond) ∈ ga_tbl := ga_m (List.mem_of_getElem? (i := 242) (by decide +kernel)) rfl
theorem kw_243 : (Cond.code ⟨"java/lang/StringUTF16", "length", "([B)I"⟩ prog_14_method_6_code 1 (some .int) : Cond) ∈ ga_tbl := ga_m (List.mem_of_getElem? (i := 243) (by decide +kernel)) rfl
theorem kw_244 : (Cond.methodLink "java/lang/StringUTF16" 414 ⟨"java/lang/String", "checkIndex", "(II)V"⟩ : Cond) ∈ ga_tbl := ga_m (List.mem_of_getElem? (i := 244) (by decide +kernel)) rfl
theorem kw_245 : (Cond.methodLink "java/lang/StringUTF16" 71 ⟨"java/lang/StringUTF16", "getChar", "([BI)C"⟩ : Cond) ∈ ga_tbl := ga_m (List.mem_of_getElem? (i := 245) (by decide +kernel)) rfl
theorem kw_246 : (Cond.static ⟨"java/lang/StringUTF16", "getChar", "([BI)C"⟩ : Cond) ∈ ga_tbl := ga_m (List.mem_of_getElem? (i := 246) (by decide +kernel)) rfl
theorem kw_247 : (Cond.code ⟨"java/lang/StringUTF16", "getChar", "([BI)C"⟩ prog_14_method_5_code 2 (some .char) : Cond) ∈ ga_tbl := ga_m (List.mem_of_getElem? (i := 247) (by decide +kernel)) rfl
theorem kw_248 : (Cond.fieldLink "java/lang/StringUTF16" 44 "java/lang/StringUTF16" "$assertionsDisabled" "Z" : Cond) ∈ ga_tbl := ga_m (List.mem_of_getElem? (i := 248) (by decide +kernel)) rfl
theorem kl_249 : (Cond.laysStatic "java/lang/StringUTF16" "$assertionsDisabled" "Z" : Cond) ∈ lw_tbl := List.mem_of_getElem? (i := 249) (by decide +kernel)
theorem kw_250 : (Cond.fieldLink "java/lang/StringUTF16" 59 "java/lang/StringUTF16" "HI_BYTE_SHIFT" "I" : Cond) ∈ ga_tbl := ga_m (List.mem_of_getElem? (i := 250) (by decide +kernel)) rfl
theorem kl_251 : (Cond.laysStatic "java/lang/StringUTF16" "HI_BYTE_SHIFT" "I" : Cond) ∈ lw_tbl := List.mem_of_getElem? (i := 251) (by decide +kernel)
theorem kw_252 : (Cond.fieldLink "java/lang/StringUTF16" 63 "java/lang/StringUTF16" "LO_BYTE_SHIFT" "I" : Cond) ∈ ga_tbl := ga_m (List.mem_of_getElem? (i := 252) (by decide +kernel)) rfl
theorem kl_253 : (Cond.laysStatic "java/lang/StringUTF16" "LO_BYTE_SHIFT" "I" : Cond) ∈ lw_tbl := List.mem_of_getElem? (i := 253) (by decide +kernel)
theorem kw_254 : (Cond.methodLink "PatternText$PatternReader" 68 ⟨"PatternText$PatternReader", "takeSpace", "()Z"⟩ : Cond) ∈ ga_tbl := ga_m (List.mem_of_getElem? (i := 254) (by decide +kernel)) rfl
theorem kl_255 : (Cond.privateMethod ⟨"PatternText$PatternReader", "takeSpace", "()Z"⟩ : Cond) ∈ lw_tbl := List.mem_of_getElem? (i := 255) (by decide +kernel)
theorem kw_256 : (Cond.instanceMethod ⟨"PatternText$PatternReader", "takeSpace", "()Z"⟩ : Cond) ∈ ga_tbl := ga_m (List.mem_of_getElem? (i := 256) (by decide +kernel)) rfl
theorem kw_257 : (Cond.code ⟨"PatternText$PatternReader", "takeSpace", "()Z"⟩ prog_5_method_11_code 1 (some .boolean) : Cond) ∈ ga_tbl := ga_m (List.mem_of_getElem? (i := 257) (by decide +kernel)) rfl
theorem kw_258 : (Cond.methodLink "PatternText$PatternReader" 93 ⟨"PatternText$PatternReader", "signHere", "()I"⟩ : Cond) ∈ ga_tbl := ga_m (List.mem_of_getElem? (i := 258) (by decide +kernel)) rfl
theorem kl_259 : (Cond.privateMethod ⟨"PatternText$PatternReader", "signHere", "()I"⟩ : Cond) ∈ lw_tbl := List.mem_of_getElem? (i := 259) (by decide +kernel)
theorem kw_260 : (Cond.instanceMethod ⟨"PatternText$PatternReader", "signHere", "()I"⟩ : Cond) ∈ ga_tbl := ga_m (List.mem_of_getElem? (i := 260) (by decide +kernel)) rfl
theorem kw_261 : (Cond.code ⟨"PatternText$PatternReader", "signHere", "()I"⟩ prog_5_method_14_code 1 (some .int) : Cond) ∈ ga_tbl := ga_m (List.mem_of_getElem? (i := 261) (by decide +kernel)) rfl
theorem kw_262 : (Cond.methodLink "PatternText$PatternReader" 71 ⟨"PatternText$PatternReader", "takeNumber", "(II)Z"⟩ : Cond) ∈ ga_tbl := ga_m (List.mem_of_getElem? (i := 262) (by decide +kernel)) rfl
theorem kl_263 : (Cond.privateMethod ⟨"PatternText$PatternReader", "takeNumber", "(II)Z"⟩ : Cond) ∈ lw_tbl := List.mem_of_getElem? (i := 263) (by decide +kernel)
theorem kw_264 : (Cond.instanceMethod ⟨"PatternText$PatternReader", "takeNumber", "(II)Z"⟩ : Cond) ∈ ga_tbl := ga_m (List.mem_of_getElem? (i := 264) (by decide +kernel)) rfl
theorem kw_265 : (Cond.code ⟨"PatternText$PatternReader", "takeNumber", "(II)Z"⟩ prog_5_method_13_code 7 (some .boolean) : Cond) ∈ ga_tbl := ga_m (List.mem_of_getElem? (i := 265) (by decide +kernel)) rfl
theorem kw_266 : (Cond.methodLink "PatternText$PatternReader" 113 ⟨"PatternText$PatternReader", "isDigit", "(I)Z"⟩ : Cond) ∈ ga_tbl := ga_m (List.mem_of_getElem? (i := 266) (by decide +kernel)) rfl
theorem kw_267 : (Cond.static ⟨"PatternText$PatternReader", "isDigit", "(I)Z"⟩ : Cond) ∈ ga_tbl := ga_m (List.mem_of_getElem? (i := 267) (by decide +kernel)) rfl
theorem kw_268 : (Cond.code ⟨"PatternText$PatternReader", "isDigit", "(I)Z"⟩ prog_5_method_16_code 1 (some .boolean) : Cond) ∈ ga_tbl := ga_m (List.mem_of_getElem? (i := 268) (by decide +kernel)) rfl
theorem kw_269 : (Cond.methodLink "PatternText$PatternReader" 116 ⟨"java/lang/Math", "min", "(II)I"⟩ : Cond) ∈ ga_tbl := ga_m (List.mem_of_getElem? (i := 269) (by decide +kernel)) rfl
theorem kw_270 : (Cond.static ⟨"java/lang/Math", "min", "(II)I"⟩ : Cond) ∈ ga_tbl := ga_m (List.mem_of_getElem? (i := 270) (by decide +kernel)) rfl
theorem kw_271 : (Cond.code ⟨"java/lang/Math", "min", "(II)I"⟩ prog_10_method_69_code 2 (some .int) : Cond) ∈ ga_tbl := ga_m (List.mem_of_getElem? (i := 271) (by decide +kernel)) rfl
theorem kl_272 : (Cond.stringRef "PatternText$PatternReader" 75 "days" : Cond) ∈ lw_tbl := List.mem_of_getElem? (i := 272) (by decide +kernel)
theorem kl_273 : (Cond.stringRef "PatternText$PatternReader" 77 "weeks" : Cond) ∈ lw_tbl := List.mem_of_getElem? (i := 273) (by decide +kernel)
theorem kl_274 : (Cond.stringRef "PatternText$PatternReader" 79 "months" : Cond) ∈ lw_tbl := List.mem_of_getElem? (i := 274) (by decide +kernel)
theorem kw_275 : (Cond.methodLink "PatternText$PatternReader" 56 ⟨"PatternText$PatternReader", "takeClauses", "()Z"⟩ : Cond) ∈ ga_tbl := ga_m (List.mem_of_getElem? (i := 275) (by decide +kernel)) rfl
theorem kl_276 : (Cond.privateMethod ⟨"PatternText$PatternReader", "takeClauses", "()Z"⟩ : Cond) ∈ lw_tbl := List.mem_of_getElem? (i := 276) (by decide +kernel)
theorem kw_277 : (Cond.instanceMethod ⟨"PatternText$PatternReader", "takeClauses", "()Z"⟩ : Cond) ∈ ga_tbl := ga_m (List.mem_of_getElem? (i := 277) (by decide +kernel)) rfl
theorem kw_278 : (Cond.code ⟨"PatternText$PatternReader", "takeClauses", "()Z"⟩ prog_5_method_7_code 1 (some .boolean) : Cond) ∈ ga_tbl := ga_m (List.mem_of_getElem? (i := 278) (by decide +kernel)) rfl
theorem kl_279 : (Cond.stringRef "PatternText$PatternReader" 81 "skip" : Cond) ∈ lw_tbl := List.mem_of_getElem? (i := 279) (by decide +kernel)
theorem kw_280 : (Cond.methodLink "PatternText$PatternReader" 83 ⟨"PatternText$PatternReader", "takeNextWord", "(Ljava/lang/String;)Z"⟩ : Cond) ∈ ga_tbl := ga_m (List.mem_of_getElem? (i := 280) (by decide +kernel)) rfl
theorem kl_281 : (Cond.privateMethod ⟨"PatternText$PatternReader", "takeNextWord", "(Ljava/lang/String;)Z"⟩ : Cond) ∈ lw_tbl := List.mem_of_getElem? (i := 281) (by decide +kernel)
theorem kw_282 : (Cond.instanceMethod ⟨"PatternText$PatternReader", "takeNextWord", "(Ljava/lang/String;)Z"⟩ : Cond) ∈ ga_tbl := ga_m (List.mem_of_getElem? (i := 282) (by decide +kernel)) rfl
theorem kw_283 : (Cond.code ⟨"PatternText$PatternReader", "takeNextWord", "(Ljava/lang/String;)Z"⟩ prog_5_method_10_code 3 (some .boolean) : Cond) ∈ ga_tbl := ga_m (List.mem_of_getElem? (i := 283) (by decide +kernel)) rfl
theorem kw_284 : (Cond.methodLink "PatternText$PatternReader" 86 ⟨"PatternText$PatternReader", "takeMonths", "()Z"⟩ : Cond) ∈ ga_tbl := ga_m (List.mem_of_getElem? (i := 284) (by decide +kernel)) rfl
theorem kl_285 : (Cond.privateMethod ⟨"PatternText$PatternReader", "takeMonths", "()Z"⟩ : Cond) ∈ lw_tbl := List.mem_of_getElem? (i := 285) (by decide +kernel)
theorem kw_286 : (Cond.instanceMethod ⟨"PatternText$PatternReader", "takeMonths", "()Z"⟩ : Cond) ∈ ga_tbl := ga_m (List.mem_of_getElem? (i := 286) (by decide +kernel)) rfl
theorem kw_287 : (Cond.code ⟨"PatternText$PatternReader", "takeMonths", "()Z"⟩ prog_5_method_9_code 3 (some .boolean) : Cond) ∈ ga_tbl := ga_m (List.mem_of_getElem? (i := 287) (by decide +kernel)) rfl
theorem kl_288 : (Cond.stringRef "PatternText$PatternReader" 89 "joined" : Cond) ∈ lw_tbl := List.mem_of_getElem? (i := 288) (by decide +kernel)
theorem kl_289 : (Cond.stringRef "PatternText$PatternReader" 90 "volume" : Cond) ∈ lw_tbl := List.mem_of_getElem? (i := 289) (by decide +kernel)
theorem kl_290 : (Cond.stringRef "PatternText$PatternReader" 91 "restart" : Cond) ∈ lw_tbl := List.mem_of_getElem? (i := 290) (by decide +kernel)
theorem kw_291 : (Cond.methodLink "PatternText$PatternReader" 59 ⟨"PatternText$PatternReader", "takeEnd", "()Z"⟩ : Cond) ∈ ga_tbl := ga_m (List.mem_of_getElem? (i := 291) (by decide +kernel)) rfl
theorem kl_292 : (Cond.privateMethod ⟨"PatternText$PatternReader", "takeEnd", "()Z"⟩ : Cond) ∈ lw_tbl := List.mem_of_getElem? (i := 292) (by decide +kernel)
theorem kw_293 : (Cond.instanceMethod ⟨"PatternText$PatternReader", "takeEnd", "()Z"⟩ : Cond) ∈ ga_tbl := ga_m (List.mem_of_getElem? (i := 293) (by decide +kernel)) rfl
theorem kw_294 : (Cond.code ⟨"PatternText$PatternReader", "takeEnd", "()Z"⟩ prog_5_method_8_code 1 (some .boolean) : Cond) ∈ ga_tbl := ga_m (List.mem_of_getElem? (i := 294) (by decide +kernel)) rfl
theorem kw_295 : (Cond.methodLink "PatternText" 55 ⟨"PatternText", "keepPattern", "()I"⟩ : Cond) ∈ ga_tbl := ga_m (List.mem_of_getElem? (i := 295) (by decide +kernel)) rfl
theorem kl_296 : (Cond.privateMethod ⟨"PatternText", "keepPattern", "()I"⟩ : Cond) ∈ lw_tbl := List.mem_of_getElem? (i := 296) (by decide +kernel)
theorem kw_297 : (Cond.instanceMethod ⟨"PatternText", "keepPattern", "()I"⟩ : Cond) ∈ ga_tbl := ga_m (List.mem_of_getElem? (i := 297) (by decide +kernel)) rfl
theorem kw_298 : (Cond.code ⟨"PatternText", "keepPattern", "()I"⟩ prog_1_method_18_code 2 (some .int) : Cond) ∈ ga_tbl := ga_m (List.mem_of_getElem? (i := 298) (by decide +kernel)) rfl
theorem kw_299 : (Cond.methodLink "PatternText" 148 ⟨"PatternText$PatternReader", "makePattern", "(I)LPatternText$Pattern;"⟩ : Cond) ∈ ga_tbl := ga_m (List.mem_of_getElem? (i := 299) (by decide +kernel)) rfl
theorem kw_300 : (Cond.instanceMethod ⟨"PatternText$PatternReader", "makePattern", "(I)LPatternText$Pattern;"⟩ : Cond) ∈ ga_tbl := ga_m (List.mem_of_getElem? (i := 300) (by decide +kernel)) rfl
theorem kw_301 : (Cond.selects "PatternText$PatternReader" ⟨"PatternText$PatternReader", "makePattern", "(I)LPatternText$Pattern;"⟩ ⟨"PatternText$PatternReader", "makePattern", "(I)LPatternText$Pattern;"⟩ : Cond) ∈ ga_tbl := ga_m (List.mem_of_getElem? (i := 301) (by decide +kernel)) rfl
theorem kw_302 : (Cond.code ⟨"PatternText$PatternReader", "makePattern", "(I)LPatternText$Pattern;"⟩ prog_5_method_4_code 3 (some (.object "PatternText$Pattern")) : Cond) ∈ ga_tbl := ga_m (List.mem_of_getElem? (i := 302) (by decide +kernel)) rfl
theorem kw_303 : (Cond.methodLink "PatternText$PatternReader" 41 ⟨"java/lang/System", "arraycopy", "(Ljava/lang/Object;ILjava/lang/Object;II)V"⟩ : Cond) ∈ ga_tbl := ga_m (List.mem_of_getElem? (i := 303) (by decide +kernel)) rfl
theorem kw_304 : (Cond.static ⟨"java/lang/System", "arraycopy", "(Ljava/lang/Object;ILjava/lang/Object;II)V"⟩ : Cond) ∈ ga_tbl := ga_m (List.mem_of_getElem? (i := 304) (by decide +kernel)) rfl
theorem kw_305 : (Cond.native ⟨"java/lang/System", "arraycopy", "(Ljava/lang/Object;ILjava/lang/Object;II)V"⟩ : Cond) ∈ ga_tbl := ga_m (List.mem_of_getElem? (i := 305) (by decide +kernel)) rfl
theorem kw_306 : (Cond.classLink "PatternText$PatternReader" 47 "PatternText$Pattern" : Cond) ∈ ga_tbl := ga_m (List.mem_of_getElem? (i := 306) (by decide +kernel)) rfl
theorem kw_307 : (Cond.instantiable "PatternText$Pattern" 7 : Cond) ∈ ga_tbl := ga_m (List.mem_of_getElem? (i := 307) (by decide +kernel)) rfl
theorem kw_308 : (Cond.methodLink "PatternText$PatternReader" 49 ⟨"PatternText$Pattern", "<init>", "(I[IIIIIZ)V"⟩ : Cond) ∈ ga_tbl := ga_m (List.mem_of_getElem? (i := 308) (by decide +kernel)) rfl
theorem kw_309 : (Cond.instanceMethod ⟨"PatternText$Pattern", "<init>", "(I[IIIIIZ)V"⟩ : Cond) ∈ ga_tbl := ga_m (List.mem_of_getElem? (i := 309) (by decide +kernel)) rfl
theorem kw_310 : (Cond.code ⟨"PatternText$Pattern", "<init>", "(I[IIIIIZ)V"⟩ prog_4_method_1_code 8 none : Cond) ∈ ga_tbl := ga_m (List.mem_of_getElem? (i := 310) (by decide +kernel)) rfl
theorem kw_311 : (Cond.methodLink "PatternText$Pattern" 3 ⟨"java/lang/Object", "<init>", "()V"⟩ : Cond) ∈ ga_tbl := ga_m (List.mem_of_getElem? (i := 311) (by decide +kernel)) rfl
theorem kw_312 : (Cond.fieldLink "PatternText$Pattern" 9 "PatternText$Pattern" "place" "I" : Cond) ∈ ga_tbl := ga_m (List.mem_of_getElem? (i := 312) (by decide +kernel)) rfl
theorem kl_313 : (Cond.fieldLinkNest "PatternText$IssueList" 84 "PatternText$Pattern" "place" "I" "PatternText" : Cond) ∈ lw_tbl := List.mem_of_getElem? (i := 313) (by decide +kernel)
theorem kw_314 : (Cond.fieldLink "PatternText$Pattern" 15 "PatternText$Pattern" "signs" "[I" : Cond) ∈ ga_tbl := ga_m (List.mem_of_getElem? (i := 314) (by decide +kernel)) rfl
theorem kl_315 : (Cond.fieldLinkNest "PatternText" 134 "PatternText$Pattern" "signs" "[I" "PatternText" : Cond) ∈ lw_tbl := List.mem_of_getElem? (i := 315) (by decide +kernel)
theorem kw_316 : (Cond.fieldLink "PatternText$Pattern" 19 "PatternText$Pattern" "stepDays" "I" : Cond) ∈ ga_tbl := ga_m (List.mem_of_getElem? (i := 316) (by decide +kernel)) rfl
theorem kl_317 : (Cond.fieldLinkNest "PatternText$IssueList" 75 "PatternText$Pattern" "stepDays" "I" "PatternText" : Cond) ∈ lw_tbl := List.mem_of_getElem? (i := 317) (by decide +kernel)
theorem kw_318 : (Cond.fieldLink "PatternText$Pattern" 22 "PatternText$Pattern" "monthsLeftOut" "I" : Cond) ∈ ga_tbl := ga_m (List.mem_of_getElem? (i := 318) (by decide +kernel)) rfl
theorem kw_319 : (Cond.fieldLink "PatternText$Pattern" 25 "PatternText$Pattern" "joined" "I" : Cond) ∈ ga_tbl := ga_m (List.mem_of_getElem? (i := 319) (by decide +kernel)) rfl
theorem kw_320 : (Cond.fieldLink "PatternText$Pattern" 28 "PatternText$Pattern" "volume" "I" : Cond) ∈ ga_tbl := ga_m (List.mem_of_getElem? (i := 320) (by decide +kernel)) rfl
theorem kw_321 : (Cond.fieldLink "PatternText$Pattern" 31 "PatternText$Pattern" "restarts" "Z" : Cond) ∈ ga_tbl := ga_m (List.mem_of_getElem? (i := 321) (by decide +kernel)) rfl
theorem kw_322 : (Cond.laysFinal "PatternText$Pattern" "PatternText$Pattern" "place" "I" : Cond) ∈ ga_tbl := ga_m (List.mem_of_getElem? (i := 322) (by decide +kernel)) rfl
theorem kw_323 : (Cond.soleField "PatternText$Pattern" "place" : Cond) ∈ ga_tbl := ga_m (List.mem_of_getElem? (i := 323) (by decide +kernel)) rfl
theorem kw_324 : (Cond.laysFinal "PatternText$Pattern" "PatternText$Pattern" "signs" "[I" : Cond) ∈ ga_tbl := ga_m (List.mem_of_getElem? (i := 324) (by decide +kernel)) rfl
theorem kw_325 : (Cond.soleField "PatternText$Pattern" "signs" : Cond) ∈ ga_tbl := ga_m (List.mem_of_getElem? (i := 325) (by decide +kernel)) rfl
theorem kw_326 : (Cond.laysFinal "PatternText$Pattern" "PatternText$Pattern" "stepDays" "I" : Cond) ∈ ga_tbl := ga_m (List.mem_of_getElem? (i := 326) (by decide +kernel)) rfl
theorem kw_327 : (Cond.soleField "PatternText$Pattern" "stepDays" : Cond) ∈ ga_tbl := ga_m (List.mem_of_getElem? (i := 327) (by decide +kernel)) rfl
theorem kw_328 : (Cond.laysFinal "PatternText$Pattern" "PatternText$Pattern" "monthsLeftOut" "I" : Cond) ∈ ga_tbl := ga_m (List.mem_of_getElem? (i := 328) (by decide +kernel)) rfl
theorem kw_329 : (Cond.soleField "PatternText$Pattern" "monthsLeftOut" : Cond) ∈ ga_tbl := ga_m (List.mem_of_getElem? (i := 329) (by decide +kernel)) rfl
theorem kw_330 : (Cond.laysFinal "PatternText$Pattern" "PatternText$Pattern" "joined" "I" : Cond) ∈ ga_tbl := ga_m (List.mem_of_getElem? (i := 330) (by decide +kernel)) rfl
theorem kw_331 : (Cond.soleField "PatternText$Pattern" "joined" : Cond) ∈ ga_tbl := ga_m (List.mem_of_getElem? (i := 331) (by decide +kernel)) rfl
theorem kw_332 : (Cond.laysFinal "PatternText$Pattern" "PatternText$Pattern" "volume" "I" : Cond) ∈ ga_tbl := ga_m (List.mem_of_getElem? (i := 332) (by decide +kernel)) rfl
theorem kw_333 : (Cond.soleField "PatternText$Pattern" "volume" : Cond) ∈ ga_tbl := ga_m (List.mem_of_getElem? (i := 333) (by decide +kernel)) rfl
theorem kw_334 : (Cond.laysFinal "PatternText$Pattern" "PatternText$Pattern" "restarts" "Z" : Cond) ∈ ga_tbl := ga_m (List.mem_of_getElem? (i := 334) (by decide +kernel)) rfl
theorem kw_335 : (Cond.soleField "PatternText$Pattern" "restarts" : Cond) ∈ ga_tbl := ga_m (List.mem_of_getElem? (i := 335) (by decide +kernel)) rfl
theorem kw_336 : (Cond.superclass "PatternText$Pattern" "java/lang/Object" : Cond) ∈ ga_tbl := ga_m (List.mem_of_getElem? (i := 336) (by decide +kernel)) rfl
theorem kw_337 : (Cond.arrayClass .byte : Cond) ∈ ga_tbl := ga_m (List.mem_of_getElem? (i := 337) (by decide +kernel)) rfl
theorem kw_338 : (Cond.methodLink "PatternText" 59 ⟨"PatternText$PatternReader", "forget", "()V"⟩ : Cond) ∈ ga_tbl := ga_m (List.mem_of_getElem? (i := 338) (by decide +kernel)) rfl
theorem kw_339 : (Cond.instanceMethod ⟨"PatternText$PatternReader", "forget", "()V"⟩ : Cond) ∈ ga_tbl := ga_m (List.mem_of_getElem? (i := 339) (by decide +kernel)) rfl
theorem kw_340 : (Cond.selects "PatternText$PatternReader" ⟨"PatternText$PatternReader", "forget", "()V"⟩ ⟨"PatternText$PatternReader", "forget", "()V"⟩ : Cond) ∈ ga_tbl := ga_m (List.mem_of_getElem? (i := 340) (by decide +kernel)) rfl
theorem kw_341 : (Cond.code ⟨"PatternText$PatternReader", "forget", "()V"⟩ prog_5_method_3_code 1 none : Cond) ∈ ga_tbl := ga_m (List.mem_of_getElem? (i := 341) (by decide +kernel)) rfl
theorem kw_342 : (Cond.methodLink "PatternTextLaw" 29 ⟨"PatternText", "foretell", "(III)I"⟩ : Cond) ∈ ga_tbl := ga_m (List.mem_of_getElem? (i := 342) (by decide +kernel)) rfl
theorem kw_343 : (Cond.instanceMethod ⟨"PatternText", "foretell", "(III)I"⟩ : Cond) ∈ ga_tbl := ga_m (List.mem_of_getElem? (i := 343) (by decide +kernel)) rfl
theorem kw_344 : (Cond.selects "PatternText" ⟨"PatternText", "foretell", "(III)I"⟩ ⟨"PatternText", "foretell", "(III)I"⟩ : Cond) ∈ ga_tbl := ga_m (List.mem_of_getElem? (i := 344) (by decide +kernel)) rfl
theorem kw_345 : (Cond.code ⟨"PatternText", "foretell", "(III)I"⟩ prog_1_method_4_code 5 (some .int) : Cond) ∈ ga_tbl := ga_m (List.mem_of_getElem? (i := 345) (by decide +kernel)) rfl
theorem kw_346 : (Cond.methodLink "PatternText" 62 ⟨"PatternText", "patternOf", "(I)LPatternText$Pattern;"⟩ : Cond) ∈ ga_tbl := ga_m (List.mem_of_getElem? (i := 346) (by decide +kernel)) rfl
theorem kl_347 : (Cond.privateMethod ⟨"PatternText", "patternOf", "(I)LPatternText$Pattern;"⟩ : Cond) ∈ lw_tbl := List.mem_of_getElem? (i := 347) (by decide +kernel)
theorem kw_348 : (Cond.instanceMethod ⟨"PatternText", "patternOf", "(I)LPatternText$Pattern;"⟩ : Cond) ∈ ga_tbl := ga_m (List.mem_of_getElem? (i := 348) (by decide +kernel)) rfl
theorem kw_349 : (Cond.code ⟨"PatternText", "patternOf", "(I)LPatternText$Pattern;"⟩ prog_1_method_17_code 2 (some (.object "PatternText$Pattern")) : Cond) ∈ ga_tbl := ga_m (List.mem_of_getElem? (i := 349) (by decide +kernel)) rfl
theorem kw_350 : (Cond.methodLink "PatternText" 66 ⟨"PatternText", "isDay", "(I)Z"⟩ : Cond) ∈ ga_tbl := ga_m (List.mem_of_getElem? (i := 350) (by decide +kernel)) rfl
theorem kw_351 : (Cond.static ⟨"PatternText", "isDay", "(I)Z"⟩ : Cond) ∈ ga_tbl := ga_m (List.mem_of_getElem? (i := 351) (by decide +kernel)) rfl
theorem kw_352 : (Cond.code ⟨"PatternText", "isDay", "(I)Z"⟩ prog_1_method_16_code 1 (some .boolean) : Cond) ∈ ga_tbl := ga_m (List.mem_of_getElem? (i := 352) (by decide +kernel)) rfl
theorem kw_353 : (Cond.constant "PatternText" 147 1000000 : Cond) ∈ ga_tbl := ga_m (List.mem_of_getElem? (i := 353) (by decide +kernel)) rfl
theorem kw_354 : (Cond.methodLink "PatternText" 70 ⟨"PatternText$IssueList", "cutTo", "(I)V"⟩ : Cond) ∈ ga_tbl := ga_m (List.mem_of_getElem? (i := 354) (by decide +kernel)) rfl
theorem kw_355 : (Cond.instanceMethod ⟨"PatternText$IssueList", "cutTo", "(I)V"⟩ : Cond) ∈ ga_tbl := ga_m (List.mem_of_getElem? (i := 355) (by decide +kernel)) rfl
theorem kw_356 : (Cond.selects "PatternText$IssueList" ⟨"PatternText$IssueList", "cutTo", "(I)V"⟩ ⟨"PatternText$IssueList", "cutTo", "(I)V"⟩ : Cond) ∈ ga_tbl := ga_m (List.mem_of_getElem? (i := 356) (by decide +kernel)) rfl
theorem kw_357 : (Cond.code ⟨"PatternText$IssueList", "cutTo", "(I)V"⟩ prog_3_method_6_code 2 none : Cond) ∈ ga_tbl := ga_m (List.mem_of_getElem? (i := 357) (by decide +kernel)) rfl
theorem kw_358 : (Cond.methodLink "PatternText" 73 ⟨"PatternText$IssueList", "goOn", "(LPatternText$Pattern;IILPatternText$Holidays;)V"⟩ : Cond) ∈ ga_tbl := ga_m (List.mem_of_getElem? (i := 358) (by decide +kernel)) rfl
theorem kw_359 : (Cond.instanceMethod ⟨"PatternText$IssueList", "goOn", "(LPatternText$Pattern;IILPatternText$Holidays;)V"⟩ : Cond) ∈ ga_tbl := ga_m (List.mem_of_getElem? (i := 359) (by decide +kernel)) rfl
theorem kw_360 : (Cond.selects "PatternText$IssueList" ⟨"PatternText$IssueList", "goOn", "(LPatternText$Pattern;IILPatternText$Holidays;)V"⟩ ⟨"PatternText$IssueList", "goOn", "(LPatternText$Pattern;IILPatternText$Holidays;)V"⟩ : Cond) ∈ ga_tbl := ga_m (List.mem_of_getElem? (i := 360) (by decide +kernel)) rfl
theorem kw_361 : (Cond.code ⟨"PatternText$IssueList", "goOn", "(LPatternText$Pattern;IILPatternText$Holidays;)V"⟩ prog_3_method_7_code 9 none : Cond) ∈ ga_tbl := ga_m (List.mem_of_getElem? (i := 361) (by decide +kernel)) rfl
theorem kw_362 : (Cond.methodLink "PatternText$IssueList" 56 ⟨"PatternText$Pattern", "stepWithIssue", "(I)I"⟩ : Cond) ∈ ga_tbl := ga_m (List.mem_of_getElem? (i := 362) (by decide +kernel)) rfl
theorem kw_363 : (Cond.instanceMethod ⟨"PatternText$Pattern", "stepWithIssue", "(I)I"⟩ : Cond) ∈ ga_tbl := ga_m (List.mem_of_getElem? (i := 363) (by decide +kernel)) rfl
theorem kw_364 : (Cond.selects "PatternText$Pattern" ⟨"PatternText$Pattern", "stepWithIssue", "(I)I"⟩ ⟨"PatternText$Pattern", "stepWithIssue", "(I)I"⟩ : Cond) ∈ ga_tbl := ga_m (List.mem_of_getElem? (i := 364) (by decide +kernel)) rfl
theorem kw_365 : (Cond.code ⟨"PatternText$Pattern", "stepWithIssue", "(I)I"⟩ prog_4_method_3_code 4 (some .int) : Cond) ∈ ga_tbl := ga_m (List.mem_of_getElem? (i := 365) (by decide +kernel)) rfl
theorem kw_366 : (Cond.constant "PatternText$Pattern" 35 1000000 : Cond) ∈ ga_tbl := ga_m (List.mem_of_getElem? (i := 366) (by decide +kernel)) rfl
theorem kw_367 : (Cond.methodLink "PatternText$Pattern" 36 ⟨"PatternText$Pattern", "hasIssueOn", "(I)Z"⟩ : Cond) ∈ ga_tbl := ga_m (List.mem_of_getElem? (i := 367) (by decide +kernel)) rfl
theorem kw_368 : (Cond.instanceMethod ⟨"PatternText$Pattern", "hasIssueOn", "(I)Z"⟩ : Cond) ∈ ga_tbl := ga_m (List.mem_of_getElem? (i := 368) (by decide +kernel)) rfl
theorem kw_369 : (Cond.selects "PatternText$Pattern" ⟨"PatternText$Pattern", "hasIssueOn", "(I)Z"⟩ ⟨"PatternText$Pattern", "hasIssueOn", "(I)Z"⟩ : Cond) ∈ ga_tbl := ga_m (List.mem_of_getElem? (i := 369) (by decide +kernel)) rfl
theorem kw_370 : (Cond.code ⟨"PatternText$Pattern", "hasIssueOn", "(I)Z"⟩ prog_4_method_2_code 3 (some .boolean) : Cond) ∈ ga_tbl := ga_m (List.mem_of_getElem? (i := 370) (by decide +kernel)) rfl
theorem kw_371 : (Cond.methodLink "PatternText$IssueList" 62 ⟨"PatternText$Holidays", "dayFrom", "(I)I"⟩ : Cond) ∈ ga_tbl := ga_m (List.mem_of_getElem? (i := 371) (by decide +kernel)) rfl
theorem kw_372 : (Cond.instanceMethod ⟨"PatternText$Holidays", "dayFrom", "(I)I"⟩ : Cond) ∈ ga_tbl := ga_m (List.mem_of_getElem? (i := 372) (by decide +kernel)) rfl
theorem kw_373 : (Cond.selects "PatternText$Holidays" ⟨"PatternText$Holidays", "dayFrom", "(I)I"⟩ ⟨"PatternText$Holidays", "dayFrom", "(I)I"⟩ : Cond) ∈ ga_tbl := ga_m (List.mem_of_getElem? (i := 373) (by decide +kernel)) rfl
theorem kw_374 : (Cond.code ⟨"PatternText$Holidays", "dayFrom", "(I)I"⟩ prog_2_method_3_code 4 (some .int) : Cond) ∈ ga_tbl := ga_m (List.mem_of_getElem? (i := 374) (by decide +kernel)) rfl
theorem kw_375 : (Cond.constant "PatternText$IssueList" 67 1000000 : Cond) ∈ ga_tbl := ga_m (List.mem_of_getElem? (i := 375) (by decide +kernel)) rfl
theorem kw_376 : (Cond.methodLink "PatternText$IssueList" 68 ⟨"PatternText$Pattern", "numbersOfIssue", "(I)I"⟩ : Cond) ∈ ga_tbl := ga_m (List.mem_of_getElem? (i := 376) (by decide +kernel)) rfl
theorem kw_377 : (Cond.instanceMethod ⟨"PatternText$Pattern", "numbersOfIssue", "(I)I"⟩ : Cond) ∈ ga_tbl := ga_m (List.mem_of_getElem? (i := 377) (by decide +kernel)) rfl
theorem kw_378 : (Cond.selects "PatternText$Pattern" ⟨"PatternText$Pattern", "numbersOfIssue", "(I)I"⟩ ⟨"PatternText$Pattern", "numbersOfIssue", "(I)I"⟩ : Cond) ∈ ga_tbl := ga_m (List.mem_of_getElem? (i := 378) (by decide +kernel)) rfl
theorem kw_379 : (Cond.code ⟨"PatternText$Pattern", "numbersOfIssue", "(I)I"⟩ prog_4_method_5_code 2 (some .int) : Cond) ∈ ga_tbl := ga_m (List.mem_of_getElem? (i := 379) (by decide +kernel)) rfl
theorem kw_380 : (Cond.methodLink "PatternText$IssueList" 71 ⟨"PatternText$IssueList", "put", "(LPatternText$Pattern;III)V"⟩ : Cond) ∈ ga_tbl := ga_m (List.mem_of_getElem? (i := 380) (by decide +kernel)) rfl
theorem kl_381 : (Cond.privateMethod ⟨"PatternText$IssueList", "put", "(LPatternText$Pattern;III)V"⟩ : Cond) ∈ lw_tbl := List.mem_of_getElem? (i := 381) (by decide +kernel)
theorem kw_382 : (Cond.instanceMethod ⟨"PatternText$IssueList", "put", "(LPatternText$Pattern;III)V"⟩ : Cond) ∈ ga_tbl := ga_m (List.mem_of_getElem? (i := 382) (by decide +kernel)) rfl
theorem kw_383 : (Cond.code ⟨"PatternText$IssueList", "put", "(LPatternText$Pattern;III)V"⟩ prog_3_method_8_code 7 none : Cond) ∈ ga_tbl := ga_m (List.mem_of_getElem? (i := 383) (by decide +kernel)) rfl
theorem kw_384 : (Cond.methodLink "PatternText$IssueList" 78 ⟨"PatternText$Pattern", "asTold", "(I)I"⟩ : Cond) ∈ ga_tbl := ga_m (List.mem_of_getElem? (i := 384) (by decide +kernel)) rfl
theorem kw_385 : (Cond.instanceMethod ⟨"PatternText$Pattern", "asTold", "(I)I"⟩ : Cond) ∈ ga_tbl := ga_m (List.mem_of_getElem? (i := 385) (by decide +kernel)) rfl
theorem kw_386 : (Cond.selects "PatternText$Pattern" ⟨"PatternText$Pattern", "asTold", "(I)I"⟩ ⟨"PatternText$Pattern", "asTold", "(I)I"⟩ : Cond) ∈ ga_tbl := ga_m (List.mem_of_getElem? (i := 386) (by decide +kernel)) rfl
theorem kw_387 : (Cond.code ⟨"PatternText$Pattern", "asTold", "(I)I"⟩ prog_4_method_7_code 2 (some .int) : Cond) ∈ ga_tbl := ga_m (List.mem_of_getElem? (i := 387) (by decide +kernel)) rfl
theorem kw_388 : (Cond.methodLink "PatternText$IssueList" 81 ⟨"PatternText$Pattern", "volumeOf", "(I)I"⟩ : Cond) ∈ ga_tbl := ga_m (List.mem_of_getElem? (i := 388) (by decide +kernel)) rfl
theorem kw_389 : (Cond.instanceMethod ⟨"PatternText$Pattern", "volumeOf", "(I)I"⟩ : Cond) ∈ ga_tbl := ga_m (List.mem_of_getElem? (i := 389) (by decide +kernel)) rfl
theorem kw_390 : (Cond.selects "PatternText$Pattern" ⟨"PatternText$Pattern", "volumeOf", "(I)I"⟩ ⟨"PatternText$Pattern", "volumeOf", "(I)I"⟩ : Cond) ∈ ga_tbl := ga_m (List.mem_of_getElem? (i := 390) (by decide +kernel)) rfl
theorem kw_391 : (Cond.code ⟨"PatternText$Pattern", "volumeOf", "(I)I"⟩ prog_4_method_6_code 2 (some .int) : Cond) ∈ ga_tbl := ga_m (List.mem_of_getElem? (i := 391) (by decide +kernel)) rfl
theorem kw_392 : (Cond.methodLink "PatternTextLaw" 33 ⟨"PatternText", "changed", "(II)I"⟩ : Cond) ∈ ga_tbl := ga_m (List.mem_of_getElem? (i := 392) (by decide +kernel)) rfl
theorem kw_393 : (Cond.instanceMethod ⟨"PatternText", "changed", "(II)I"⟩ : Cond) ∈ ga_tbl := ga_m (List.mem_of_getElem? (i := 393) (by decide +kernel)) rfl
theorem kw_394 : (Cond.selects "PatternText" ⟨"PatternText", "changed", "(II)I"⟩ ⟨"PatternText", "changed", "(II)I"⟩ : Cond) ∈ ga_tbl := ga_m (List.mem_of_getElem? (i := 394) (by decide +kernel)) rfl
theorem kw_395 : (Cond.code ⟨"PatternText", "changed", "(II)I"⟩ prog_1_method_5_code 6 (some .int) : Cond) ∈ ga_tbl := ga_m (List.mem_of_getElem? (i := 395) (by decide +kernel)) rfl
theorem kw_396 : (Cond.methodLink "PatternText" 80 ⟨"PatternText$IssueList", "countBefore", "(I)I"⟩ : Cond) ∈ ga_tbl := ga_m (List.mem_of_getElem? (i := 396) (by decide +kernel)) rfl
theorem kw_397 : (Cond.instanceMethod ⟨"PatternText$IssueList", "countBefore", "(I)I"⟩ : Cond) ∈ ga_tbl := ga_m (List.mem_of_getElem? (i := 397) (by decide +kernel)) rfl
theorem kw_398 : (Cond.selects "PatternText$IssueList" ⟨"PatternText$IssueList", "countBefore", "(I)I"⟩ ⟨"PatternText$IssueList", "countBefore", "(I)I"⟩ : Cond) ∈ ga_tbl := ga_m (List.mem_of_getElem? (i := 398) (by decide +kernel)) rfl
theorem kw_399 : (Cond.code ⟨"PatternText$IssueList", "countBefore", "(I)I"⟩ prog_3_method_5_code 3 (some .int) : Cond) ∈ ga_tbl := ga_m (List.mem_of_getElem? (i := 399) (by decide +kernel)) rfl
theorem kw_400 : (Cond.methodLink "PatternText" 84 ⟨"PatternText$IssueList", "hasComeFrom", "(I)Z"⟩ : Cond) ∈ ga_tbl := ga_m (List.mem_of_getElem? (i := 400) (by decide +kernel)) rfl
theorem kw_401 : (Cond.instanceMethod ⟨"PatternText$IssueList", "hasComeFrom", "(I)Z"⟩ : Cond) ∈ ga_tbl := ga_m (List.mem_of_getElem? (i := 401) (by decide +kernel)) rfl
theorem kw_402 : (Cond.selects "PatternText$IssueList" ⟨"PatternText$IssueList", "hasComeFrom", "(I)Z"⟩ ⟨"PatternText$IssueList", "hasComeFrom", "(I)Z"⟩ : Cond) ∈ ga_tbl := ga_m (List.mem_of_getElem? (i := 402) (by decide +kernel)) rfl
theorem kw_403 : (Cond.code ⟨"PatternText$IssueList", "hasComeFrom", "(I)Z"⟩ prog_3_method_4_code 3 (some .boolean) : Cond) ∈ ga_tbl := ga_m (List.mem_of_getElem? (i := 403) (by decide +kernel)) rfl
theorem kw_404 : (Cond.methodLink "PatternText$IssueList" 47 ⟨"java/lang/Math", "max", "(II)I"⟩ : Cond) ∈ ga_tbl := ga_m (List.mem_of_getElem? (i := 404) (by decide +kernel)) rfl
theorem kw_405 : (Cond.static ⟨"java/lang/Math", "max", "(II)I"⟩ : Cond) ∈ ga_tbl := ga_m (List.mem_of_getElem? (i := 405) (by decide +kernel)) rfl
theorem kw_406 : (Cond.code ⟨"java/lang/Math", "max", "(II)I"⟩ prog_10_method_65_code 2 (some .int) : Cond) ∈ ga_tbl := ga_m (List.mem_of_getElem? (i := 406) (by decide +kernel)) rfl
theorem kw_407 : (Cond.methodLink "PatternText$IssueList" 53 ⟨"PatternText$IssueList", "isOut", "(I)Z"⟩ : Cond) ∈ ga_tbl := ga_m (List.mem_of_getElem? (i := 407) (by decide +kernel)) rfl
theorem kw_408 : (Cond.instanceMethod ⟨"PatternText$IssueList", "isOut", "(I)Z"⟩ : Cond) ∈ ga_tbl := ga_m (List.mem_of_getElem? (i := 408) (by decide +kernel)) rfl
theorem kw_409 : (Cond.selects "PatternText$IssueList" ⟨"PatternText$IssueList", "isOut", "(I)Z"⟩ ⟨"PatternText$IssueList", "isOut", "(I)Z"⟩ : Cond) ∈ ga_tbl := ga_m (List.mem_of_getElem? (i := 409) (by decide +kernel)) rfl
theorem kw_410 : (Cond.code ⟨"PatternText$IssueList", "isOut", "(I)Z"⟩ prog_3_method_3_code 2 (some .boolean) : Cond) ∈ ga_tbl := ga_m (List.mem_of_getElem? (i := 410) (by decide +kernel)) rfl
theorem kw_411 : (Cond.methodLink "PatternText$IssueList" 43 ⟨"PatternText$IssueList", "has", "(I)Z"⟩ : Cond) ∈ ga_tbl := ga_m (List.mem_of_getElem? (i := 411) (by decide +kernel)) rfl
theorem kw_412 : (Cond.instanceMethod ⟨"PatternText$IssueList", "has", "(I)Z"⟩ : Cond) ∈ ga_tbl := ga_m (List.mem_of_getElem? (i := 412) (by decide +kernel)) rfl
theorem kw_413 : (Cond.selects "PatternText$IssueList" ⟨"PatternText$IssueList", "has", "(I)Z"⟩ ⟨"PatternText$IssueList", "has", "(I)Z"⟩ : Cond) ∈ ga_tbl := ga_m (List.mem_of_getElem? (i := 413) (by decide +kernel)) rfl
theorem kw_414 : (Cond.code ⟨"PatternText$IssueList", "has", "(I)Z"⟩ prog_3_method_2_code 2 (some .boolean) : Cond) ∈ ga_tbl := ga_m (List.mem_of_getElem? (i := 414) (by decide +kernel)) rfl
theorem kw_415 : (Cond.methodLink "PatternTextLaw" 38 ⟨"PatternText", "issue", "(II)I"⟩ : Cond) ∈ ga_tbl := ga_m (List.mem_of_getElem? (i := 415) (by decide +kernel)) rfl
theorem kw_416 : (Cond.instanceMethod ⟨"PatternText", "issue", "(II)I"⟩ : Cond) ∈ ga_tbl := ga_m (List.mem_of_getElem? (i := 416) (by decide +kernel)) rfl
theorem kw_417 : (Cond.selects "PatternText" ⟨"PatternText", "issue", "(II)I"⟩ ⟨"PatternText", "issue", "(II)I"⟩ : Cond) ∈ ga_tbl := ga_m (List.mem_of_getElem? (i := 417) (by decide +kernel)) rfl
theorem kw_418 : (Cond.code ⟨"PatternText", "issue", "(II)I"⟩ prog_1_method_6_code 3 (some .int) : Cond) ∈ ga_tbl := ga_m (List.mem_of_getElem? (i := 418) (by decide +kernel)) rfl
theorem kw_419 : (Cond.methodLink "PatternText" 87 ⟨"PatternText$IssueList", "has", "(I)Z"⟩ : Cond) ∈ ga_tbl := ga_m (List.mem_of_getElem? (i := 419) (by decide +kernel)) rfl
theorem kw_420 : (Cond.methodLink "PatternText" 105 ⟨"PatternText$IssueList", "isOut", "(I)Z"⟩ : Cond) ∈ ga_tbl := ga_m (List.mem_of_getElem? (i := 420) (by decide +kernel)) rfl
theorem kw_421 : (Cond.methodLink "PatternTextLaw" 42 ⟨"PatternText", "date", "(I)J"⟩ : Cond) ∈ ga_tbl := ga_m (List.mem_of_getElem? (i := 421) (by decide +kernel)) rfl
theorem kw_422 : (Cond.instanceMethod ⟨"PatternText", "date", "(I)J"⟩ : Cond) ∈ ga_tbl := ga_m (List.mem_of_getElem? (i := 422) (by decide +kernel)) rfl
theorem kw_423 : (Cond.selects "PatternText" ⟨"PatternText", "date", "(I)J"⟩ ⟨"PatternText", "date", "(I)J"⟩ : Cond) ∈ ga_tbl := ga_m (List.mem_of_getElem? (i := 423) (by decide +kernel)) rfl
theorem kw_424 : (Cond.code ⟨"PatternText", "date", "(I)J"⟩ prog_1_method_7_code 2 (some .long) : Cond) ∈ ga_tbl := ga_m (List.mem_of_getElem? (i := 424) (by decide +kernel)) rfl
theorem kw_425 : (Cond.constantLong "PatternText" 111 (-1) : Cond) ∈ ga_tbl := ga_m (List.mem_of_getElem? (i := 425) (by decide +kernel)) rfl
theorem kw_426 : (Cond.methodLink "PatternTextLaw" 47 ⟨"PatternText", "irregular", "(II)I"⟩ : Cond) ∈ ga_tbl := ga_m (List.mem_of_getElem? (i := 426) (by decide +kernel)) rfl
theorem kw_427 : (Cond.instanceMethod ⟨"PatternText", "irregular", "(II)I"⟩ : Cond) ∈ ga_tbl := ga_m (List.mem_of_getElem? (i := 427) (by decide +kernel)) rfl
theorem kw_428 : (Cond.selects "PatternText" ⟨"PatternText", "irregular", "(II)I"⟩ ⟨"PatternText", "irregular", "(II)I"⟩ : Cond) ∈ ga_tbl := ga_m (List.mem_of_getElem? (i := 428) (by decide +kernel)) rfl
theorem kw_429 : (Cond.code ⟨"PatternText", "irregular", "(II)I"⟩ prog_1_method_8_code 3 (some .int) : Cond) ∈ ga_tbl := ga_m (List.mem_of_getElem? (i := 429) (by decide +kernel)) rfl
theorem kw_430 : (Cond.methodLink "PatternTextLaw" 51 ⟨"PatternText", "holiday", "(I)I"⟩ : Cond) ∈ ga_tbl := ga_m (List.mem_of_getElem? (i := 430) (by decide +kernel)) rfl
theorem kw_431 : (Cond.instanceMethod ⟨"PatternText", "holiday", "(I)I"⟩ : Cond) ∈ ga_tbl := ga_m (List.mem_of_getElem? (i := 431) (by decide +kernel)) rfl
theorem kw_432 : (Cond.selects "PatternText" ⟨"PatternText", "holiday", "(I)I"⟩ ⟨"PatternText", "holiday", "(I)I"⟩ : Cond) ∈ ga_tbl := ga_m (List.mem_of_getElem? (i := 432) (by decide +kernel)) rfl
theorem kw_433 : (Cond.code ⟨"PatternText", "holiday", "(I)I"⟩ prog_1_method_9_code 2 (some .int) : Cond) ∈ ga_tbl := ga_m (List.mem_of_getElem? (i := 433) (by decide +kernel)) rfl
theorem kw_434 : (Cond.methodLink "PatternText" 113 ⟨"PatternText$Holidays", "add", "(I)Z"⟩ : Cond) ∈ ga_tbl := ga_m (List.mem_of_getElem? (i := 434) (by decide +kernel)) rfl
theorem kw_435 : (Cond.instanceMethod ⟨"PatternText$Holidays", "add", "(I)Z"⟩ : Cond) ∈ ga_tbl := ga_m (List.mem_of_getElem? (i := 435) (by decide +kernel)) rfl
theorem kw_436 : (Cond.selects "PatternText$Holidays" ⟨"PatternText$Holidays", "add", "(I)Z"⟩ ⟨"PatternText$Holidays", "add", "(I)Z"⟩ : Cond) ∈ ga_tbl := ga_m (List.mem_of_getElem? (i := 436) (by decide +kernel)) rfl
theorem kw_437 : (Cond.code ⟨"PatternText$Holidays", "add", "(I)Z"⟩ prog_2_method_2_code 3 (some .boolean) : Cond) ∈ ga_tbl := ga_m (List.mem_of_getElem? (i := 437) (by decide +kernel)) rfl
theorem kw_438 : (Cond.methodLink "PatternText$Holidays" 19 ⟨"PatternText$Holidays", "dayFrom", "(I)I"⟩ : Cond) ∈ ga_tbl := ga_m (List.mem_of_getElem? (i := 438) (by decide +kernel)) rfl
theorem kw_439 : (Cond.methodLink "PatternTextLaw" 56 ⟨"PatternText", "came", "(II)I"⟩ : Cond) ∈ ga_tbl := ga_m (List.mem_of_getElem? (i := 439) (by decide +kernel)) rfl
theorem kw_440 : (Cond.instanceMethod ⟨"PatternText", "came", "(II)I"⟩ : Cond) ∈ ga_tbl := ga_m (List.mem_of_getElem? (i := 440) (by decide +kernel)) rfl
theorem kw_441 : (Cond.selects "PatternText" ⟨"PatternText", "came", "(II)I"⟩ ⟨"PatternText", "came", "(II)I"⟩ : Cond) ∈ ga_tbl := ga_m (List.mem_of_getElem? (i := 441) (by decide +kernel)) rfl
theorem kw_442 : (Cond.code ⟨"PatternText", "came", "(II)I"⟩ prog_1_method_10_code 3 (some .int) : Cond) ∈ ga_tbl := ga_m (List.mem_of_getElem? (i := 442) (by decide +kernel)) rfl
theorem kw_443 : (Cond.methodLink "PatternTextLaw" 60 ⟨"PatternText", "late", "(II)I"⟩ : Cond) ∈ ga_tbl := ga_m (List.mem_of_getElem? (i := 443) (by decide +kernel)) rfl
theorem kw_444 : (Cond.instanceMethod ⟨"PatternText", "late", "(II)I"⟩ : Cond) ∈ ga_tbl := ga_m (List.mem_of_getElem? (i := 444) (by decide +kernel)) rfl
theorem kw_445 : (Cond.selects "PatternText" ⟨"PatternText", "late", "(II)I"⟩ ⟨"PatternText", "late", "(II)I"⟩ : Cond) ∈ ga_tbl := ga_m (List.mem_of_getElem? (i := 445) (by decide +kernel)) rfl
theorem kw_446 : (Cond.code ⟨"PatternText", "late", "(II)I"⟩ prog_1_method_11_code 4 (some .int) : Cond) ∈ ga_tbl := ga_m (List.mem_of_getElem? (i := 446) (by decide +kernel)) rfl
theorem kw_447 : (Cond.methodLink "PatternText" 122 ⟨"java/lang/Math", "max", "(II)I"⟩ : Cond) ∈ ga_tbl := ga_m (List.mem_of_getElem? (i := 447) (by decide +kernel)) rfl
theorem kw_448 : (Cond.methodLink "PatternTextLaw" 64 ⟨"PatternText", "claim", "(II)I"⟩ : Cond) ∈ ga_tbl := ga_m (List.mem_of_getElem? (i := 448) (by decide +kernel)) rfl
theorem kw_449 : (Cond.instanceMethod ⟨"PatternText", "claim", "(II)I"⟩ : Cond) ∈ ga_tbl := ga_m (List.mem_of_getElem? (i := 449) (by decide +kernel)) rfl
theorem kw_450 : (Cond.selects "PatternText" ⟨"PatternText", "claim", "(II)I"⟩ ⟨"PatternText", "claim", "(II)I"⟩ : Cond) ∈ ga_tbl := ga_m (List.mem_of_getElem? (i := 450) (by decide +kernel)) rfl
theorem kw_451 : (Cond.code ⟨"PatternText", "claim", "(II)I"⟩ prog_1_method_12_code 5 (some .int) : Cond) ∈ ga_tbl := ga_m (List.mem_of_getElem? (i := 451) (by decide +kernel)) rfl
theorem kw_452 : (Cond.methodLink "PatternText" 128 ⟨"PatternText$IssueList", "countOverdue", "(I)I"⟩ : Cond) ∈ ga_tbl := ga_m (List.mem_of_getElem? (i := 452) (by decide +kernel)) rfl
theorem kw_453 : (Cond.instanceMethod ⟨"PatternText$IssueList", "countOverdue", "(I)I"⟩ : Cond) ∈ ga_tbl := ga_m (List.mem_of_getElem? (i := 453) (by decide +kernel)) rfl
theorem kw_454 : (Cond.selects "PatternText$IssueList" ⟨"PatternText$IssueList", "countOverdue", "(I)I"⟩ ⟨"PatternText$IssueList", "countOverdue", "(I)I"⟩ : Cond) ∈ ga_tbl := ga_m (List.mem_of_getElem? (i := 454) (by decide +kernel)) rfl
theorem kw_455 : (Cond.code ⟨"PatternText$IssueList", "countOverdue", "(I)I"⟩ prog_3_method_10_code 4 (some .int) : Cond) ∈ ga_tbl := ga_m (List.mem_of_getElem? (i := 455) (by decide +kernel)) rfl
theorem kw_456 : (Cond.methodLink "PatternText$IssueList" 87 ⟨"PatternText$IssueList", "isOverdue", "(II)Z"⟩ : Cond) ∈ ga_tbl := ga_m (List.mem_of_getElem? (i := 456) (by decide +kernel)) rfl
theorem kl_457 : (Cond.privateMethod ⟨"PatternText$IssueList", "isOverdue", "(II)Z"⟩ : Cond) ∈ lw_tbl := List.mem_of_getElem? (i := 457) (by decide +kernel)
theorem kw_458 : (Cond.instanceMethod ⟨"PatternText$IssueList", "isOverdue", "(II)Z"⟩ : Cond) ∈ ga_tbl := ga_m (List.mem_of_getElem? (i := 458) (by decide +kernel)) rfl
theorem kw_459 : (Cond.code ⟨"PatternText$IssueList", "isOverdue", "(II)Z"⟩ prog_3_method_9_code 3 (some .boolean) : Cond) ∈ ga_tbl := ga_m (List.mem_of_getElem? (i := 459) (by decide +kernel)) rfl
theorem kw_460 : (Cond.methodLink "PatternText" 131 ⟨"PatternText$IssueList", "nextOverdue", "(II)I"⟩ : Cond) ∈ ga_tbl := ga_m (List.mem_of_getElem? (i := 460) (by decide +kernel)) rfl
theorem kw_461 : (Cond.instanceMethod ⟨"PatternText$IssueList", "nextOverdue", "(II)I"⟩ : Cond) ∈ ga_tbl := ga_m (List.mem_of_getElem? (i := 461) (by decide +kernel)) rfl
theorem kw_462 : (Cond.selects "PatternText$IssueList" ⟨"PatternText$IssueList", "nextOverdue", "(II)I"⟩ ⟨"PatternText$IssueList", "nextOverdue", "(II)I"⟩ : Cond) ∈ ga_tbl := ga_m (List.mem_of_getElem? (i := 462) (by decide +kernel)) rfl
theorem kw_463 : (Cond.code ⟨"PatternText$IssueList", "nextOverdue", "(II)I"⟩ prog_3_method_11_code 6 (some .int) : Cond) ∈ ga_tbl := ga_m (List.mem_of_getElem? (i := 463) (by decide +kernel)) rfl
theorem kw_464 : (Cond.methodLink "PatternText$IssueList" 91 ⟨"PatternText$IssueList", "isClaimedBefore", "(II)Z"⟩ : Cond) ∈ ga_tbl := ga_m (List.mem_of_getElem? (i := 464) (by decide +kernel)) rfl
theorem kl_465 : (Cond.privateMethod ⟨"PatternText$IssueList", "isClaimedBefore", "(II)Z"⟩ : Cond) ∈ lw_tbl := List.mem_of_getElem? (i := 465) (by decide +kernel)
theorem kw_466 : (Cond.instanceMethod ⟨"PatternText$IssueList", "isClaimedBefore", "(II)Z"⟩ : Cond) ∈ ga_tbl := ga_m (List.mem_of_getElem? (i := 466) (by decide +kernel)) rfl
theorem kw_467 : (Cond.code ⟨"PatternText$IssueList", "isClaimedBefore", "(II)Z"⟩ prog_3_method_12_code 3 (some .boolean) : Cond) ∈ ga_tbl := ga_m (List.mem_of_getElem? (i := 467) (by decide +kernel)) rfl
theorem kw_468 : (Cond.methodLink "PatternTextLaw" 68 ⟨"PatternText", "print", "(I)I"⟩ : Cond) ∈ ga_tbl := ga_m (List.mem_of_getElem? (i := 468) (by decide +kernel)) rfl
theorem kw_469 : (Cond.instanceMethod ⟨"PatternText", "print", "(I)I"⟩ : Cond) ∈ ga_tbl := ga_m (List.mem_of_getElem? (i := 469) (by decide +kernel)) rfl
theorem kw_470 : (Cond.selects "PatternText" ⟨"PatternText", "print", "(I)I"⟩ ⟨"PatternText", "print", "(I)I"⟩ : Cond) ∈ ga_tbl := ga_m (List.mem_of_getElem? (i := 470) (by decide +kernel)) rfl
theorem kw_471 : (Cond.code ⟨"PatternText", "print", "(I)I"⟩ prog_1_method_13_code 3 (some .int) : Cond) ∈ ga_tbl := ga_m (List.mem_of_getElem? (i := 471) (by decide +kernel)) rfl
theorem kw_472 : (Cond.methodLink "PatternTextLaw" 72 ⟨"PatternText", "at", "(I)I"⟩ : Cond) ∈ ga_tbl := ga_m (List.mem_of_getElem? (i := 472) (by decide +kernel)) rfl
theorem kw_473 : (Cond.instanceMethod ⟨"PatternText", "at", "(I)I"⟩ : Cond) ∈ ga_tbl := ga_m (List.mem_of_getElem? (i := 473) (by decide +kernel)) rfl
theorem kw_474 : (Cond.selects "PatternText" ⟨"PatternText", "at", "(I)I"⟩ ⟨"PatternText", "at", "(I)I"⟩ : Cond) ∈ ga_tbl := ga_m (List.mem_of_getElem? (i := 474) (by decide +kernel)) rfl
theorem kw_475 : (Cond.code ⟨"PatternText", "at", "(I)I"⟩ prog_1_method_14_code 2 (some .int) : Cond) ∈ ga_tbl := ga_m (List.mem_of_getElem? (i := 475) (by decide +kernel)) rfl
theorem kw_476 : (Cond.methodLink "PatternTextLaw" 76 ⟨"PatternTextLaw", "yearly", "(LPatternText;III[J)I"⟩ : Cond) ∈ ga_tbl := ga_m (List.mem_of_getElem? (i := 476) (by decide +kernel)) rfl
theorem kw_477 : (Cond.static ⟨"PatternTextLaw", "yearly", "(LPatternText;III[J)I"⟩ : Cond) ∈ ga_tbl := ga_m (List.mem_of_getElem? (i := 477) (by decide +kernel)) rfl
theorem kw_478 : (Cond.codeWith ⟨"PatternTextLaw", "yearly", "(LPatternText;III[J)I"⟩ method_3_code 6 (some .int) [(0, 12, 15, 13)] : Cond) ∈ ga_tbl := ga_m (List.mem_of_getElem? (i := 478) (by decide +kernel)) rfl
theorem kw_479 : (Cond.classLink "PatternTextLaw" 13 "java/lang/ArithmeticException" : Cond) ∈ ga_tbl := ga_m (List.mem_of_getElem? (i := 479) (by decide +kernel)) rfl
theorem kw_480 : (Cond.methodLink "PatternTextLaw" 7 ⟨"PatternText", "yearly", "(III)I"⟩ : Cond) ∈ ga_tbl := ga_m (List.mem_of_getElem? (i := 480) (by decide +kernel)) rfl
theorem kw_481 : (Cond.instanceMethod ⟨"PatternText", "yearly", "(III)I"⟩ : Cond) ∈ ga_tbl := ga_m (List.mem_of_getElem? (i := 481) (by decide +kernel)) rfl
theorem kw_482 : (Cond.selects "PatternText" ⟨"PatternText", "yearly", "(III)I"⟩ ⟨"PatternText", "yearly", "(III)I"⟩ : Cond) ∈ ga_tbl := ga_m (List.mem_of_getElem? (i := 482) (by decide +kernel)) rfl
theorem kw_483 : (Cond.code ⟨"PatternText", "yearly", "(III)I"⟩ prog_1_method_15_code 5 (some .int) : Cond) ∈ ga_tbl := ga_m (List.mem_of_getElem? (i := 483) (by decide +kernel)) rfl
theorem kw_484 : (Cond.classLink "PatternText" 137 "java/lang/ArithmeticException" : Cond) ∈ ga_tbl := ga_m (List.mem_of_getElem? (i := 484) (by decide +kernel)) rfl
theorem kw_485 : (Cond.instantiable "java/lang/ArithmeticException" 6 : Cond) ∈ ga_tbl := ga_m (List.mem_of_getElem? (i := 485) (by decide +kernel)) rfl
theorem kl_486 : (Cond.castable "java/lang/ArithmeticException" "java/lang/ArithmeticException" : Cond) ∈ lw_tbl := List.mem_of_getElem? (i := 486) (by decide +kernel)
theorem kl_487 : (Cond.declares ⟨"java/lang/RuntimeException", "<init>", "()V"⟩ : Cond) ∈ lw_tbl := List.mem_of_getElem? (i := 487) (by decide +kernel)
theorem kl_488 : (Cond.declares ⟨"java/lang/RuntimeException", "<init>", "(Ljava/lang/String;)V"⟩ : Cond) ∈ lw_tbl := List.mem_of_getElem? (i := 488) (by decide +kernel)
theorem kl_489 : (Cond.declares ⟨"java/lang/Exception", "<init>", "()V"⟩ : Cond) ∈ lw_tbl := List.mem_of_getElem? (i := 489) (by decide +kernel)
theorem kl_490 : (Cond.declares ⟨"java/lang/Exception", "<init>", "(Ljava/lang/String;)V"⟩ : Cond) ∈ lw_tbl := List.mem_of_getElem? (i := 490) (by decide +kernel)
theorem kl_491 : (Cond.declares ⟨"java/lang/Throwable", "<init>", "()V"⟩ : Cond) ∈ lw_tbl := List.mem_of_getElem? (i := 491) (by decide +kernel)
theorem kl_492 : (Cond.declares ⟨"java/lang/Throwable", "<init>", "(Ljava/lang/String;)V"⟩ : Cond) ∈ lw_tbl := List.mem_of_getElem? (i := 492) (by decide +kernel)
theorem kw_493 : (Cond.selects "java/lang/ArithmeticException" ⟨"java/lang/Throwable", "fillInStackTrace", "(I)Ljava/lang/Throwable;"⟩ ⟨"java/lang/Throwable", "fillInStackTrace", "(I)Ljava/lang/Throwable;"⟩ : Cond) ∈ ga_tbl := ga_m (List.mem_of_getElem? (i := 493) (by decide +kernel)) rfl
theorem kw_494 : (Cond.selects "java/lang/ArithmeticException" ⟨"java/lang/Throwable", "fillInStackTrace", "()Ljava/lang/Throwable;"⟩ ⟨"java/lang/Throwable", "fillInStackTrace", "()Ljava/lang/Throwable;"⟩ : Cond) ∈ ga_tbl := ga_m (List.mem_of_getElem? (i := 494) (by decide +kernel)) rfl
theorem kw_495 : (Cond.lays "java/lang/ArithmeticException" "java/lang/Throwable" "cause" "Ljava/lang/Throwable;" : Cond) ∈ ga_tbl := ga_m (List.mem_of_getElem? (i := 495) (by decide +kernel)) rfl
theorem kw_496 : (Cond.lays "java/lang/Throwable" "java/lang/Throwable" "cause" "Ljava/lang/Throwable;" : Cond) ∈ ga_tbl := ga_m (List.mem_of_getElem? (i := 496) (by decide +kernel)) rfl
theorem kw_497 : (Cond.lays "java/lang/ArithmeticException" "java/lang/Throwable" "stackTrace" "[Ljava/lang/StackTraceElement;" : Cond) ∈ ga_tbl := ga_m (List.mem_of_getElem? (i := 497) (by decide +kernel)) rfl
theorem kw_498 : (Cond.lays "java/lang/Throwable" "java/lang/Throwable" "stackTrace" "[Ljava/lang/StackTraceElement;" : Cond) ∈ ga_tbl := ga_m (List.mem_of_getElem? (i := 498) (by decide +kernel)) rfl
theorem kw_499 : (Cond.lays "java/lang/ArithmeticException" "java/lang/Throwable" "suppressedExceptions" "Ljava/util/List;" : Cond) ∈ ga_tbl := ga_m (List.mem_of_getElem? (i := 499) (by decide +kernel)) rfl
theorem kw_500 : (Cond.lays "java/lang/Throwable" "java/lang/Throwable" "suppressedExceptions" "Ljava/util/List;" : Cond) ∈ ga_tbl := ga_m (List.mem_of_getElem? (i := 500) (by decide +kernel)) rfl
theorem kw_501 : (Cond.lays "java/lang/ArithmeticException" "java/lang/Throwable" "detailMessage" "Ljava/lang/String;" : Cond) ∈ ga_tbl := ga_m (List.mem_of_getElem? (i := 501) (by decide +kernel)) rfl
theorem kw_502 : (Cond.lays "java/lang/Throwable" "java/lang/Throwable" "detailMessage" "Ljava/lang/String;" : Cond) ∈ ga_tbl := ga_m (List.mem_of_getElem? (i := 502) (by decide +kernel)) rfl
theorem kw_503 : (Cond.lays "java/lang/ArithmeticException" "java/lang/Throwable" "backtrace" "Ljava/lang/Object;" : Cond) ∈ ga_tbl := ga_m (List.mem_of_getElem? (i := 503) (by decide +kernel)) rfl
theorem kw_504 : (Cond.lays "java/lang/Throwable" "java/lang/Throwable" "backtrace" "Ljava/lang/Object;" : Cond) ∈ ga_tbl := ga_m (List.mem_of_getElem? (i := 504) (by decide +kernel)) rfl
theorem kw_505 : (Cond.fieldLink "java/lang/Throwable" 198 "java/lang/Throwable" "backtrace" "Ljava/lang/Object;" : Cond) ∈ ga_tbl := ga_m (List.mem_of_getElem? (i := 505) (by decide +kernel)) rfl
theorem kw_506 : (Cond.superclass "java/lang/Throwable" "java/lang/Object" : Cond) ∈ ga_tbl := ga_m (List.mem_of_getElem? (i := 506) (by decide +kernel)) rfl
theorem kw_507 : (Cond.instanceMethod ⟨"java/lang/Throwable", "<init>", "()V"⟩ : Cond) ∈ ga_tbl := ga_m (List.mem_of_getElem? (i := 507) (by decide +kernel)) rfl
theorem kw_508 : (Cond.code ⟨"java/lang/Throwable", "<init>", "()V"⟩ prog_16_method_1_code 1 none : Cond) ∈ ga_tbl := ga_m (List.mem_of_getElem? (i := 508) (by decide +kernel)) rfl
theorem kw_509 : (Cond.methodLink "java/lang/Throwable" 1 ⟨"java/lang/Object", "<init>", "()V"⟩ : Cond) ∈ ga_tbl := ga_m (List.mem_of_getElem? (i := 509) (by decide +kernel)) rfl
theorem kw_510 : (Cond.fieldLink "java/lang/Throwable" 13 "java/lang/Throwable" "UNASSIGNED_STACK" "[Ljava/lang/StackTraceElement;" : Cond) ∈ ga_tbl := ga_m (List.mem_of_getElem? (i := 510) (by decide +kernel)) rfl
theorem kl_511 : (Cond.laysStatic "java/lang/Throwable" "UNASSIGNED_STACK" "[Ljava/lang/StackTraceElement;" : Cond) ∈ lw_tbl := List.mem_of_getElem? (i := 511) (by decide +kernel)
theorem kw_512 : (Cond.fieldLink "java/lang/Throwable" 20 "java/lang/Throwable" "SUPPRESSED_SENTINEL" "Ljava/util/List;" : Cond) ∈ ga_tbl := ga_m (List.mem_of_getElem? (i := 512) (by decide +kernel)) rfl
theorem kl_513 : (Cond.laysStatic "java/lang/Throwable" "SUPPRESSED_SENTINEL" "Ljava/util/List;" : Cond) ∈ lw_tbl := List.mem_of_getElem? (i := 513) (by decide +kernel)
theorem kw_514 : (Cond.methodLink "java/lang/Throwable" 27 ⟨"java/lang/Throwable", "fillInStackTrace", "()Ljava/lang/Throwable;"⟩ : Cond) ∈ ga_tbl := ga_m (List.mem_of_getElem? (i := 514) (by decide +kernel)) rfl
theorem kw_515 : (Cond.instanceMethod ⟨"java/lang/Throwable", "fillInStackTrace", "()Ljava/lang/Throwable;"⟩ : Cond) ∈ ga_tbl := ga_m (List.mem_of_getElem? (i := 515) (by decide +kernel)) rfl
theorem kw_516 : (Cond.sameMethod "java/lang/Throwable" "java/lang/Throwable" "fillInStackTrace" "()Ljava/lang/Throwable;" : Cond) ∈ ga_tbl := ga_m (List.mem_of_getElem? (i := 516) (by decide +kernel)) rfl
theorem kw_517 : (Cond.codeSync ⟨"java/lang/Throwable", "fillInStackTrace", "()Ljava/lang/Throwable;"⟩ prog_16_method_18_code 1 (some (.object "java/lang/Throwable")) : Cond) ∈ ga_tbl := ga_m (List.mem_of_getElem? (i := 517) (by decide +kernel)) rfl
theorem kw_518 : (Cond.methodLink "java/lang/Throwable" 202 ⟨"java/lang/Throwable", "fillInStackTrace", "(I)Ljava/lang/Throwable;"⟩ : Cond) ∈ ga_tbl := ga_m (List.mem_of_getElem? (i := 518) (by decide +kernel)) rfl
theorem kl_519 : (Cond.privateMethod ⟨"java/lang/Throwable", "fillInStackTrace", "(I)Ljava/lang/Throwable;"⟩ : Cond) ∈ lw_tbl := List.mem_of_getElem? (i := 519) (by decide +kernel)
theorem kw_520 : (Cond.instanceMethod ⟨"java/lang/Throwable", "fillInStackTrace", "(I)Ljava/lang/Throwable;"⟩ : Cond) ∈ ga_tbl := ga_m (List.mem_of_getElem? (i := 520) (by decide +kernel)) rfl
theorem kw_521 : (Cond.instantiable "java/lang/Throwable" 6 : Cond) ∈ ga_tbl := ga_m (List.mem_of_getElem? (i := 521) (by decide +kernel)) rfl
theorem kw_522 : (Cond.native ⟨"java/lang/Throwable", "fillInStackTrace", "(I)Ljava/lang/Throwable;"⟩ : Cond) ∈ ga_tbl := ga_m (List.mem_of_getElem? (i := 522) (by decide +kernel)) rfl
theorem kl_523 : (Cond.stringRef "PatternText" 139 "each is 0" : Cond) ∈ lw_tbl := List.mem_of_getElem? (i := 523) (by decide +kernel)
theorem kw_524 : (Cond.methodLink "PatternText" 141 ⟨"java/lang/ArithmeticException", "<init>", "(Ljava/lang/String;)V"⟩ : Cond) ∈ ga_tbl := ga_m (List.mem_of_getElem? (i := 524) (by decide +kernel)) rfl
theorem kw_525 : (Cond.instanceMethod ⟨"java/lang/ArithmeticException", "<init>", "(Ljava/lang/String;)V"⟩ : Cond) ∈ ga_tbl := ga_m (List.mem_of_getElem? (i := 525) (by decide +kernel)) rfl
theorem kw_526 : (Cond.code ⟨"java/lang/ArithmeticException", "<init>", "(Ljava/lang/String;)V"⟩ prog_8_method_2_code 2 none : Cond) ∈ ga_tbl := ga_m (List.mem_of_getElem? (i := 526) (by decide +kernel)) rfl
theorem kw_527 : (Cond.methodLink "java/lang/ArithmeticException" 7 ⟨"java/lang/RuntimeException", "<init>", "(Ljava/lang/String;)V"⟩ : Cond) ∈ ga_tbl := ga_m (List.mem_of_getElem? (i := 527) (by decide +kernel)) rfl
theorem kw_528 : (Cond.instanceMethod ⟨"java/lang/RuntimeException", "<init>", "(Ljava/lang/String;)V"⟩ : Cond) ∈ ga_tbl := ga_m (List.mem_of_getElem? (i := 528) (by decide +kernel)) rfl
theorem kw_529 : (Cond.code ⟨"java/lang/RuntimeException", "<init>", "(Ljava/lang/String;)V"⟩ prog_11_method_2_code 2 none : Cond) ∈ ga_tbl := ga_m (List.mem_of_getElem? (i := 529) (by decide +kernel)) rfl
theorem kw_530 : (Cond.methodLink "java/lang/RuntimeException" 7 ⟨"java/lang/Exception", "<init>", "(Ljava/lang/String;)V"⟩ : Cond) ∈ ga_tbl := ga_m (List.mem_of_getElem? (i := 530) (by decide +kernel)) rfl
theorem kw_531 : (Cond.instanceMethod ⟨"java/lang/Exception", "<init>", "(Ljava/lang/String;)V"⟩ : Cond) ∈ ga_tbl := ga_m (List.mem_of_getElem? (i := 531) (by decide +kernel)) rfl
theorem kw_532 : (Cond.code ⟨"java/lang/Exception", "<init>", "(Ljava/lang/String;)V"⟩ prog_9_method_2_code 2 none : Cond) ∈ ga_tbl := ga_m (List.mem_of_getElem? (i := 532) (by decide +kernel)) rfl
theorem kw_533 : (Cond.methodLink "java/lang/Exception" 7 ⟨"java/lang/Throwable", "<init>", "(Ljava/lang/String;)V"⟩ : Cond) ∈ ga_tbl := ga_m (List.mem_of_getElem? (i := 533) (by decide +kernel)) rfl
theorem kw_534 : (Cond.instanceMethod ⟨"java/lang/Throwable", "<init>", "(Ljava/lang/String;)V"⟩ : Cond) ∈ ga_tbl := ga_m (List.mem_of_getElem? (i := 534) (by decide +kernel)) rfl
theorem kw_535 : (Cond.code ⟨"java/lang/Throwable", "<init>", "(Ljava/lang/String;)V"⟩ prog_16_method_2_code 2 none : Cond) ∈ ga_tbl := ga_m (List.mem_of_getElem? (i := 535) (by decide +kernel)) rfl
theorem kw_537 : (Cond.fieldLink "java/lang/Throwable" 31 "java/lang/Throwable" "detailMessage" "Ljava/lang/String;" : Cond) ∈ ga_tbl := ga_m (List.mem_of_getElem? (i := 537) (by decide +kernel)) rfl
theorem kw_538 : (Cond.fieldLink "java/lang/Throwable" 7 "java/lang/Throwable" "cause" "Ljava/lang/Throwable;" : Cond) ∈ ga_tbl := ga_m (List.mem_of_getElem? (i := 538) (by decide +kernel)) rfl
theorem kw_539 : (Cond.fieldLink "java/lang/Throwable" 17 "java/lang/Throwable" "stackTrace" "[Ljava/lang/StackTraceElement;" : Cond) ∈ ga_tbl := ga_m (List.mem_of_getElem? (i := 539) (by decide +kernel)) rfl
theorem kw_540 : (Cond.fieldLink "java/lang/Throwable" 24 "java/lang/Throwable" "suppressedExceptions" "Ljava/util/List;" : Cond) ∈ ga_tbl := ga_m (List.mem_of_getElem? (i := 540) (by decide +kernel)) rfl
theorem kw_541 : (Cond.soleField "java/lang/Throwable" "backtrace" : Cond) ∈ ga_tbl := ga_m (List.mem_of_getElem? (i := 541) (by decide +kernel)) rfl
theorem kw_542 : (Cond.soleField "java/lang/Throwable" "detailMessage" : Cond) ∈ ga_tbl := ga_m (List.mem_of_getElem? (i := 542) (by decide +kernel)) rfl
theorem kw_543 : (Cond.soleField "java/lang/Throwable" "cause" : Cond) ∈ ga_tbl := ga_m (List.mem_of_getElem? (i := 543) (by decide +kernel)) rfl
theorem kw_544 : (Cond.soleField "java/lang/Throwable" "stackTrace" : Cond) ∈ ga_tbl := ga_m (List.mem_of_getElem? (i := 544) (by decide +kernel)) rfl
theorem kw_545 : (Cond.lays "java/lang/ArithmeticException" "java/lang/Throwable" "depth" "I" : Cond) ∈ ga_tbl := ga_m (List.mem_of_getElem? (i := 545) (by decide +kernel)) rfl
theorem kw_546 : (Cond.soleField "java/lang/Throwable" "depth" : Cond) ∈ ga_tbl := ga_m (List.mem_of_getElem? (i := 546) (by decide +kernel)) rfl
theorem kw_547 : (Cond.soleField "java/lang/Throwable" "suppressedExceptions" : Cond) ∈ ga_tbl := ga_m (List.mem_of_getElem? (i := 547) (by decide +kernel)) rfl
theorem kw_548 : (Cond.superclass "java/lang/ArithmeticException" "java/lang/RuntimeException" : Cond) ∈ ga_tbl := ga_m (List.mem_of_getElem? (i := 548) (by decide +kernel)) rfl
theorem kw_549 : (Cond.methodLink "PatternText" 144 ⟨"PatternText$Pattern", "issuesInYearFrom", "(I)I"⟩ : Cond) ∈ ga_tbl := ga_m (List.mem_of_getElem? (i := 549) (by decide +kernel)) rfl
theorem kw_550 : (Cond.instanceMethod ⟨"PatternText$Pattern", "issuesInYearFrom", "(I)I"⟩ : Cond) ∈ ga_tbl := ga_m (List.mem_of_getElem? (i := 550) (by decide +kernel)) rfl
theorem kw_551 : (Cond.selects "PatternText$Pattern" ⟨"PatternText$Pattern", "issuesInYearFrom", "(I)I"⟩ ⟨"PatternText$Pattern", "issuesInYearFrom", "(I)I"⟩ : Cond) ∈ ga_tbl := ga_m (List.mem_of_getElem? (i := 551) (by decide +kernel)) rfl
theorem kw_552 : (Cond.code ⟨"PatternText$Pattern", "issuesInYearFrom", "(I)I"⟩ prog_4_method_4_code 6 (some .int) : Cond) ∈ ga_tbl := ga_m (List.mem_of_getElem? (i := 552) (by decide +kernel)) rfl
theorem kw_553 : (Cond.methodLink "PatternText$Pattern" 40 ⟨"java/lang/Math", "min", "(II)I"⟩ : Cond) ∈ ga_tbl := ga_m (List.mem_of_getElem? (i := 553) (by decide +kernel)) rfl
theorem kw_554 : (Cond.classLink "PatternTextLaw" 16 "PatternTextModel" : Cond) ∈ ga_tbl := ga_m (List.mem_of_getElem? (i := 554) (by decide +kernel)) rfl
theorem kw_555 : (Cond.instantiable "PatternTextModel" 24 : Cond) ∈ ga_tbl := ga_m (List.mem_of_getElem? (i := 555) (by decide +kernel)) rfl
theorem kw_556 : (Cond.methodLink "PatternTextLaw" 18 ⟨"PatternTextModel", "<init>", "()V"⟩ : Cond) ∈ ga_tbl := ga_m (List.mem_of_getElem? (i := 556) (by decide +kernel)) rfl
theorem kw_557 : (Cond.instanceMethod ⟨"PatternTextModel", "<init>", "()V"⟩ : Cond) ∈ ga_tbl := ga_m (List.mem_of_getElem? (i := 557) (by decide +kernel)) rfl
theorem kw_558 : (Cond.code ⟨"PatternTextModel", "<init>", "()V"⟩ prog_7_method_1_code 1 none : Cond) ∈ ga_tbl := ga_m (List.mem_of_getElem? (i := 558) (by decide +kernel)) rfl
theorem kw_559 : (Cond.methodLink "PatternTextModel" 1 ⟨"java/lang/Object", "<init>", "()V"⟩ : Cond) ∈ ga_tbl := ga_m (List.mem_of_getElem? (i := 559) (by decide +kernel)) rfl
theorem kw_560 : (Cond.fieldLink "PatternTextModel" 60 "PatternTextModel" "thrown" "I" : Cond) ∈ ga_tbl := ga_m (List.mem_of_getElem? (i := 560) (by decide +kernel)) rfl
theorem kw_561 : (Cond.fieldLink "PatternTextModel" 7 "PatternTextModel" "said" "[B" : Cond) ∈ ga_tbl := ga_m (List.mem_of_getElem? (i := 561) (by decide +kernel)) rfl
theorem kw_562 : (Cond.fieldLink "PatternTextModel" 64 "PatternTextModel" "size" "I" : Cond) ∈ ga_tbl := ga_m (List.mem_of_getElem? (i := 562) (by decide +kernel)) rfl
theorem kw_563 : (Cond.fieldLink "PatternTextModel" 70 "PatternTextModel" "at" "I" : Cond) ∈ ga_tbl := ga_m (List.mem_of_getElem? (i := 563) (by decide +kernel)) rfl
theorem kw_564 : (Cond.fieldLink "PatternTextModel" 67 "PatternTextModel" "wrong" "I" : Cond) ∈ ga_tbl := ga_m (List.mem_of_getElem? (i := 564) (by decide +kernel)) rfl
theorem kw_565 : (Cond.fieldLink "PatternTextModel" 13 "PatternTextModel" "steps" "[I" : Cond) ∈ ga_tbl := ga_m (List.mem_of_getElem? (i := 565) (by decide +kernel)) rfl
theorem kw_566 : (Cond.fieldLink "PatternTextModel" 17 "PatternTextModel" "months" "[I" : Cond) ∈ ga_tbl := ga_m (List.mem_of_getElem? (i := 566) (by decide +kernel)) rfl
theorem kw_567 : (Cond.fieldLink "PatternTextModel" 20 "PatternTextModel" "joined" "[I" : Cond) ∈ ga_tbl := ga_m (List.mem_of_getElem? (i := 567) (by decide +kernel)) rfl
theorem kw_568 : (Cond.fieldLink "PatternTextModel" 23 "PatternTextModel" "volumes" "[I" : Cond) ∈ ga_tbl := ga_m (List.mem_of_getElem? (i := 568) (by decide +kernel)) rfl
theorem kw_569 : (Cond.fieldLink "PatternTextModel" 26 "PatternTextModel" "restarts" "[Z" : Cond) ∈ ga_tbl := ga_m (List.mem_of_getElem? (i := 569) (by decide +kernel)) rfl
theorem kw_570 : (Cond.fieldLink "PatternTextModel" 30 "PatternTextModel" "texts" "[B" : Cond) ∈ ga_tbl := ga_m (List.mem_of_getElem? (i := 570) (by decide +kernel)) rfl
theorem kw_571 : (Cond.fieldLink "PatternTextModel" 33 "PatternTextModel" "textSizes" "[I" : Cond) ∈ ga_tbl := ga_m (List.mem_of_getElem? (i := 571) (by decide +kernel)) rfl
theorem kw_572 : (Cond.fieldLink "PatternTextModel" 130 "PatternTextModel" "count" "I" : Cond) ∈ ga_tbl := ga_m (List.mem_of_getElem? (i := 572) (by decide +kernel)) rfl
theorem kw_573 : (Cond.fieldLink "PatternTextModel" 36 "PatternTextModel" "holidays" "[I" : Cond) ∈ ga_tbl := ga_m (List.mem_of_getElem? (i := 573) (by decide +kernel)) rfl
theorem kw_574 : (Cond.fieldLink "PatternTextModel" 137 "PatternTextModel" "holidayCount" "I" : Cond) ∈ ga_tbl := ga_m (List.mem_of_getElem? (i := 574) (by decide +kernel)) rfl
theorem kw_575 : (Cond.fieldLink "PatternTextModel" 39 "PatternTextModel" "stepOf" "[I" : Cond) ∈ ga_tbl := ga_m (List.mem_of_getElem? (i := 575) (by decide +kernel)) rfl
theorem kw_576 : (Cond.fieldLink "PatternTextModel" 42 "PatternTextModel" "expects" "[I" : Cond) ∈ ga_tbl := ga_m (List.mem_of_getElem? (i := 576) (by decide +kernel)) rfl
theorem kw_577 : (Cond.fieldLink "PatternTextModel" 45 "PatternTextModel" "numbers" "[I" : Cond) ∈ ga_tbl := ga_m (List.mem_of_getElem? (i := 577) (by decide +kernel)) rfl
theorem kw_578 : (Cond.fieldLink "PatternTextModel" 48 "PatternTextModel" "twice" "[Z" : Cond) ∈ ga_tbl := ga_m (List.mem_of_getElem? (i := 578) (by decide +kernel)) rfl
theorem kw_579 : (Cond.fieldLink "PatternTextModel" 51 "PatternTextModel" "patternOf" "[I" : Cond) ∈ ga_tbl := ga_m (List.mem_of_getElem? (i := 579) (by decide +kernel)) rfl
theorem kw_580 : (Cond.fieldLink "PatternTextModel" 54 "PatternTextModel" "came" "[I" : Cond) ∈ ga_tbl := ga_m (List.mem_of_getElem? (i := 580) (by decide +kernel)) rfl
theorem kw_581 : (Cond.fieldLink "PatternTextModel" 150 "PatternTextModel" "issues" "I" : Cond) ∈ ga_tbl := ga_m (List.mem_of_getElem? (i := 581) (by decide +kernel)) rfl
theorem kw_582 : (Cond.fieldLink "PatternTextModel" 57 "PatternTextModel" "printed" "[B" : Cond) ∈ ga_tbl := ga_m (List.mem_of_getElem? (i := 582) (by decide +kernel)) rfl
theorem kw_583 : (Cond.fieldLink "PatternTextModel" 172 "PatternTextModel" "printedSize" "I" : Cond) ∈ ga_tbl := ga_m (List.mem_of_getElem? (i := 583) (by decide +kernel)) rfl
theorem kw_584 : (Cond.lays "PatternTextModel" "PatternTextModel" "thrown" "I" : Cond) ∈ ga_tbl := ga_m (List.mem_of_getElem? (i := 584) (by decide +kernel)) rfl
theorem kw_585 : (Cond.soleField "PatternTextModel" "thrown" : Cond) ∈ ga_tbl := ga_m (List.mem_of_getElem? (i := 585) (by decide +kernel)) rfl
theorem kw_586 : (Cond.laysFinal "PatternTextModel" "PatternTextModel" "said" "[B" : Cond) ∈ ga_tbl := ga_m (List.mem_of_getElem? (i := 586) (by decide +kernel)) rfl
theorem kw_587 : (Cond.soleField "PatternTextModel" "said" : Cond) ∈ ga_tbl := ga_m (List.mem_of_getElem? (i := 587) (by decide +kernel)) rfl
theorem kw_588 : (Cond.lays "PatternTextModel" "PatternTextModel" "size" "I" : Cond) ∈ ga_tbl := ga_m (List.mem_of_getElem? (i := 588) (by decide +kernel)) rfl
theorem kw_589 : (Cond.soleField "PatternTextModel" "size" : Cond) ∈ ga_tbl := ga_m (List.mem_of_getElem? (i := 589) (by decide +kernel)) rfl
theorem kw_590 : (Cond.lays "PatternTextModel" "PatternTextModel" "at" "I" : Cond) ∈ ga_tbl := ga_m (List.mem_of_getElem? (i := 590) (by decide +kernel)) rfl
theorem kw_591 : (Cond.soleField "PatternTextModel" "at" : Cond) ∈ ga_tbl := ga_m (List.mem_of_getElem? (i := 591) (by decide +kernel)) rfl
theorem kw_592 : (Cond.lays "PatternTextModel" "PatternTextModel" "wrong" "I" : Cond) ∈ ga_tbl := ga_m (List.mem_of_getElem? (i := 592) (by decide +kernel)) rfl
theorem kw_593 : (Cond.soleField "PatternTextModel" "wrong" : Cond) ∈ ga_tbl := ga_m (List.mem_of_getElem? (i := 593) (by decide +kernel)) rfl
theorem kw_594 : (Cond.laysFinal "PatternTextModel" "PatternTextModel" "steps" "[I" : Cond) ∈ ga_tbl := ga_m (List.mem_of_getElem? (i := 594) (by decide +kernel)) rfl
theorem kw_595 : (Cond.soleField "PatternTextModel" "steps" : Cond) ∈ ga_tbl := ga_m (List.mem_of_getElem? (i := 595) (by decide +kernel)) rfl
theorem kw_596 : (Cond.laysFinal "PatternTextModel" "PatternTextModel" "months" "[I" : Cond) ∈ ga_tbl := ga_m (List.mem_of_getElem? (i := 596) (by decide +kernel)) rfl
theorem kw_597 : (Cond.soleField "PatternTextModel" "months" : Cond) ∈ ga_tbl := ga_m (List.mem_of_getElem? (i := 597) (by decide +kernel)) rfl
theorem kw_598 : (Cond.laysFinal "PatternTextModel" "PatternTextModel" "joined" "[I" : Cond) ∈ ga_tbl := ga_m (List.mem_of_getElem? (i := 598) (by decide +kernel)) rfl
theorem kw_599 : (Cond.soleField "PatternTextModel" "joined" : Cond) ∈ ga_tbl := ga_m (List.mem_of_getElem? (i := 599) (by decide +kernel)) rfl
theorem kw_600 : (Cond.laysFinal "PatternTextModel" "PatternTextModel" "volumes" "[I" : Cond) ∈ ga_tbl := ga_m (List.mem_of_getElem? (i := 600) (by decide +kernel)) rfl
theorem kw_601 : (Cond.soleField "PatternTextModel" "volumes" : Cond) ∈ ga_tbl := ga_m (List.mem_of_getElem? (i := 601) (by decide +kernel)) rfl
theorem kw_602 : (Cond.laysFinal "PatternTextModel" "PatternTextModel" "restarts" "[Z" : Cond) ∈ ga_tbl := ga_m (List.mem_of_getElem? (i := 602) (by decide +kernel)) rfl
theorem kw_603 : (Cond.soleField "PatternTextModel" "restarts" : Cond) ∈ ga_tbl := ga_m (List.mem_of_getElem? (i := 603) (by decide +kernel)) rfl
theorem kw_604 : (Cond.laysFinal "PatternTextModel" "PatternTextModel" "texts" "[B" : Cond) ∈ ga_tbl := ga_m (List.mem_of_getElem? (i := 604) (by decide +kernel)) rfl
theorem kw_605 : (Cond.soleField "PatternTextModel" "texts" : Cond) ∈ ga_tbl := ga_m (List.mem_of_getElem? (i := 605) (by decide +kernel)) rfl
theorem kw_606 : (Cond.laysFinal "PatternTextModel" "PatternTextModel" "textSizes" "[I" : Cond) ∈ ga_tbl := ga_m (List.mem_of_getElem? (i := 606) (by decide +kernel)) rfl
theorem kw_607 : (Cond.soleField "PatternTextModel" "textSizes" : Cond) ∈ ga_tbl := ga_m (List.mem_of_getElem? (i := 607) (by decide +kernel)) rfl
theorem kw_608 : (Cond.lays "PatternTextModel" "PatternTextModel" "count" "I" : Cond) ∈ ga_tbl := ga_m (List.mem_of_getElem? (i := 608) (by decide +kernel)) rfl
theorem kw_609 : (Cond.soleField "PatternTextModel" "count" : Cond) ∈ ga_tbl := ga_m (List.mem_of_getElem? (i := 609) (by decide +kernel)) rfl
theorem kw_610 : (Cond.laysFinal "PatternTextModel" "PatternTextModel" "holidays" "[I" : Cond) ∈ ga_tbl := ga_m (List.mem_of_getElem? (i := 610) (by decide +kernel)) rfl
theorem kw_611 : (Cond.soleField "PatternTextModel" "holidays" : Cond) ∈ ga_tbl := ga_m (List.mem_of_getElem? (i := 611) (by decide +kernel)) rfl
theorem kw_612 : (Cond.lays "PatternTextModel" "PatternTextModel" "holidayCount" "I" : Cond) ∈ ga_tbl := ga_m (List.mem_of_getElem? (i := 612) (by decide +kernel)) rfl
theorem kw_613 : (Cond.soleField "PatternTextModel" "holidayCount" : Cond) ∈ ga_tbl := ga_m (List.mem_of_getElem? (i := 613) (by decide +kernel)) rfl
theorem kw_614 : (Cond.laysFinal "PatternTextModel" "PatternTextModel" "stepOf" "[I" : Cond) ∈ ga_tbl := ga_m (List.mem_of_getElem? (i := 614) (by decide +kernel)) rfl
theorem kw_615 : (Cond.soleField "PatternTextModel" "stepOf" : Cond) ∈ ga_tbl := ga_m (List.mem_of_getElem? (i := 615) (by decide +kernel)) rfl
theorem kw_616 : (Cond.laysFinal "PatternTextModel" "PatternTextModel" "expects" "[I" : Cond) ∈ ga_tbl := ga_m (List.mem_of_getElem? (i := 616) (by decide +kernel)) rfl
theorem kw_617 : (Cond.soleField "PatternTextModel" "expects" : Cond) ∈ ga_tbl := ga_m (List.mem_of_getElem? (i := 617) (by decide +kernel)) rfl
theorem kw_618 : (Cond.laysFinal "PatternTextModel" "PatternTextModel" "numbers" "[I" : Cond) ∈ ga_tbl := ga_m (List.mem_of_getElem? (i := 618) (by decide +kernel)) rfl
theorem kw_619 : (Cond.soleField "PatternTextModel" "numbers" : Cond) ∈ ga_tbl := ga_m (List.mem_of_getElem? (i := 619) (by decide +kernel)) rfl
theorem kw_620 : (Cond.laysFinal "PatternTextModel" "PatternTextModel" "twice" "[Z" : Cond) ∈ ga_tbl := ga_m (List.mem_of_getElem? (i := 620) (by decide +kernel)) rfl
theorem kw_621 : (Cond.soleField "PatternTextModel" "twice" : Cond) ∈ ga_tbl := ga_m (List.mem_of_getElem? (i := 621) (by decide +kernel)) rfl
theorem kw_622 : (Cond.laysFinal "PatternTextModel" "PatternTextModel" "patternOf" "[I" : Cond) ∈ ga_tbl := ga_m (List.mem_of_getElem? (i := 622) (by decide +kernel)) rfl
theorem kw_623 : (Cond.soleField "PatternTextModel" "patternOf" : Cond) ∈ ga_tbl := ga_m (List.mem_of_getElem? (i := 623) (by decide +kernel)) rfl
theorem kw_624 : (Cond.laysFinal "PatternTextModel" "PatternTextModel" "came" "[I" : Cond) ∈ ga_tbl := ga_m (List.mem_of_getElem? (i := 624) (by decide +kernel)) rfl
theorem kw_625 : (Cond.soleField "PatternTextModel" "came" : Cond) ∈ ga_tbl := ga_m (List.mem_of_getElem? (i := 625) (by decide +kernel)) rfl
theorem kw_626 : (Cond.lays "PatternTextModel" "PatternTextModel" "issues" "I" : Cond) ∈ ga_tbl := ga_m (List.mem_of_getElem? (i := 626) (by decide +kernel)) rfl
theorem kw_627 : (Cond.soleField "PatternTextModel" "issues" : Cond) ∈ ga_tbl := ga_m (List.mem_of_getElem? (i := 627) (by decide +kernel)) rfl
theorem kw_628 : (Cond.laysFinal "PatternTextModel" "PatternTextModel" "printed" "[B" : Cond) ∈ ga_tbl := ga_m (List.mem_of_getElem? (i := 628) (by decide +kernel)) rfl
theorem kw_629 : (Cond.soleField "PatternTextModel" "printed" : Cond) ∈ ga_tbl := ga_m (List.mem_of_getElem? (i := 629) (by decide +kernel)) rfl
theorem kw_630 : (Cond.lays "PatternTextModel" "PatternTextModel" "printedSize" "I" : Cond) ∈ ga_tbl := ga_m (List.mem_of_getElem? (i := 630) (by decide +kernel)) rfl
theorem kw_631 : (Cond.soleField "PatternTextModel" "printedSize" : Cond) ∈ ga_tbl := ga_m (List.mem_of_getElem? (i := 631) (by decide +kernel)) rfl
theorem kw_632 : (Cond.superclass "PatternTextModel" "java/lang/Object" : Cond) ∈ ga_tbl := ga_m (List.mem_of_getElem? (i := 632) (by decide +kernel)) rfl
theorem kw_633 : (Cond.arrayClass .boolean : Cond) ∈ ga_tbl := ga_m (List.mem_of_getElem? (i := 633) (by decide +kernel)) rfl
theorem kw_634 : (Cond.methodLink "PatternTextLaw" 82 ⟨"PatternTextModel", "thrown", "()I"⟩ : Cond) ∈ ga_tbl := ga_m (List.mem_of_getElem? (i := 634) (by decide +kernel)) rfl
theorem kw_635 : (Cond.instanceMethod ⟨"PatternTextModel", "thrown", "()I"⟩ : Cond) ∈ ga_tbl := ga_m (List.mem_of_getElem? (i := 635) (by decide +kernel)) rfl
theorem kw_636 : (Cond.selects "PatternTextModel" ⟨"PatternTextModel", "thrown", "()I"⟩ ⟨"PatternTextModel", "thrown", "()I"⟩ : Cond) ∈ ga_tbl := ga_m (List.mem_of_getElem? (i := 636) (by decide +kernel)) rfl
theorem kw_637 : (Cond.code ⟨"PatternTextModel", "thrown", "()I"⟩ prog_7_method_2_code 1 (some .int) : Cond) ∈ ga_tbl := ga_m (List.mem_of_getElem? (i := 637) (by decide +kernel)) rfl
theorem kw_638 : (Cond.methodLink "PatternTextLaw" 23 ⟨"PatternTextModel", "sign", "(I)V"⟩ : Cond) ∈ ga_tbl := ga_m (List.mem_of_getElem? (i := 638) (by decide +kernel)) rfl
theorem kw_639 : (Cond.instanceMethod ⟨"PatternTextModel", "sign", "(I)V"⟩ : Cond) ∈ ga_tbl := ga_m (List.mem_of_getElem? (i := 639) (by decide +kernel)) rfl
theorem kw_640 : (Cond.selects "PatternTextModel" ⟨"PatternTextModel", "sign", "(I)V"⟩ ⟨"PatternTextModel", "sign", "(I)V"⟩ : Cond) ∈ ga_tbl := ga_m (List.mem_of_getElem? (i := 640) (by decide +kernel)) rfl
theorem kw_641 : (Cond.code ⟨"PatternTextModel", "sign", "(I)V"⟩ prog_7_method_3_code 2 none : Cond) ∈ ga_tbl := ga_m (List.mem_of_getElem? (i := 641) (by decide +kernel)) rfl
theorem kw_642 : (Cond.methodLink "PatternTextLaw" 28 ⟨"PatternTextModel", "read", "()I"⟩ : Cond) ∈ ga_tbl := ga_m (List.mem_of_getElem? (i := 642) (by decide +kernel)) rfl
theorem kw_643 : (Cond.instanceMethod ⟨"PatternTextModel", "read", "()I"⟩ : Cond) ∈ ga_tbl := ga_m (List.mem_of_getElem? (i := 643) (by decide +kernel)) rfl
theorem kw_644 : (Cond.selects "PatternTextModel" ⟨"PatternTextModel", "read", "()I"⟩ ⟨"PatternTextModel", "read", "()I"⟩ : Cond) ∈ ga_tbl := ga_m (List.mem_of_getElem? (i := 644) (by decide +kernel)) rfl
theorem kw_645 : (Cond.code ⟨"PatternTextModel", "read", "()I"⟩ prog_7_method_15_code 4 (some .int) : Cond) ∈ ga_tbl := ga_m (List.mem_of_getElem? (i := 645) (by decide +kernel)) rfl
theorem kw_646 : (Cond.methodLink "PatternTextModel" 133 ⟨"PatternTextModel", "reads", "(I)Z"⟩ : Cond) ∈ ga_tbl := ga_m (List.mem_of_getElem? (i := 646) (by decide +kernel)) rfl
theorem kl_647 : (Cond.privateMethod ⟨"PatternTextModel", "reads", "(I)Z"⟩ : Cond) ∈ lw_tbl := List.mem_of_getElem? (i := 647) (by decide +kernel)
theorem kw_648 : (Cond.instanceMethod ⟨"PatternTextModel", "reads", "(I)Z"⟩ : Cond) ∈ ga_tbl := ga_m (List.mem_of_getElem? (i := 648) (by decide +kernel)) rfl
theorem kw_649 : (Cond.code ⟨"PatternTextModel", "reads", "(I)Z"⟩ prog_7_method_14_code 7 (some .boolean) : Cond) ∈ ga_tbl := ga_m (List.mem_of_getElem? (i := 649) (by decide +kernel)) rfl
theorem kw_650 : (Cond.methodLink "PatternTextModel" 116 ⟨"PatternTextModel", "every", "(I)Z"⟩ : Cond) ∈ ga_tbl := ga_m (List.mem_of_getElem? (i := 650) (by decide +kernel)) rfl
theorem kl_651 : (Cond.privateMethod ⟨"PatternTextModel", "every", "(I)Z"⟩ : Cond) ∈ lw_tbl := List.mem_of_getElem? (i := 651) (by decide +kernel)
theorem kw_652 : (Cond.instanceMethod ⟨"PatternTextModel", "every", "(I)Z"⟩ : Cond) ∈ ga_tbl := ga_m (List.mem_of_getElem? (i := 652) (by decide +kernel)) rfl
theorem kw_653 : (Cond.code ⟨"PatternTextModel", "every", "(I)Z"⟩ prog_7_method_12_code 6 (some .boolean) : Cond) ∈ ga_tbl := ga_m (List.mem_of_getElem? (i := 653) (by decide +kernel)) rfl
theorem kw_654 : (Cond.methodLink "PatternTextModel" 93 ⟨"PatternTextModel", "word", "()J"⟩ : Cond) ∈ ga_tbl := ga_m (List.mem_of_getElem? (i := 654) (by decide +kernel)) rfl
theorem kl_655 : (Cond.privateMethod ⟨"PatternTextModel", "word", "()J"⟩ : Cond) ∈ lw_tbl := List.mem_of_getElem? (i := 655) (by decide +kernel)
theorem kw_656 : (Cond.instanceMethod ⟨"PatternTextModel", "word", "()J"⟩ : Cond) ∈ ga_tbl := ga_m (List.mem_of_getElem? (i := 656) (by decide +kernel)) rfl
theorem kw_657 : (Cond.code ⟨"PatternTextModel", "word", "()J"⟩ prog_7_method_9_code 4 (some .long) : Cond) ∈ ga_tbl := ga_m (List.mem_of_getElem? (i := 657) (by decide +kernel)) rfl
theorem kw_658 : (Cond.methodLink "PatternTextModel" 73 ⟨"PatternTextModel", "look", "(I)I"⟩ : Cond) ∈ ga_tbl := ga_m (List.mem_of_getElem? (i := 658) (by decide +kernel)) rfl
theorem kl_659 : (Cond.privateMethod ⟨"PatternTextModel", "look", "(I)I"⟩ : Cond) ∈ lw_tbl := List.mem_of_getElem? (i := 659) (by decide +kernel)
theorem kw_660 : (Cond.instanceMethod ⟨"PatternTextModel", "look", "(I)I"⟩ : Cond) ∈ ga_tbl := ga_m (List.mem_of_getElem? (i := 660) (by decide +kernel)) rfl
theorem kw_661 : (Cond.code ⟨"PatternTextModel", "look", "(I)I"⟩ prog_7_method_4_code 2 (some .int) : Cond) ∈ ga_tbl := ga_m (List.mem_of_getElem? (i := 661) (by decide +kernel)) rfl
theorem kw_662 : (Cond.methodLink "PatternTextModel" 81 ⟨"PatternTextModel", "isLetter", "(I)Z"⟩ : Cond) ∈ ga_tbl := ga_m (List.mem_of_getElem? (i := 662) (by decide +kernel)) rfl
theorem kw_663 : (Cond.static ⟨"PatternTextModel", "isLetter", "(I)Z"⟩ : Cond) ∈ ga_tbl := ga_m (List.mem_of_getElem? (i := 663) (by decide +kernel)) rfl
theorem kw_664 : (Cond.code ⟨"PatternTextModel", "isLetter", "(I)Z"⟩ prog_7_method_7_code 1 (some .boolean) : Cond) ∈ ga_tbl := ga_m (List.mem_of_getElem? (i := 664) (by decide +kernel)) rfl
theorem kw_665 : (Cond.constantLong "PatternTextModel" 84 (-1) : Cond) ∈ ga_tbl := ga_m (List.mem_of_getElem? (i := 665) (by decide +kernel)) rfl
theorem kw_666 : (Cond.constantLong "PatternTextModel" 86 32 : Cond) ∈ ga_tbl := ga_m (List.mem_of_getElem? (i := 666) (by decide +kernel)) rfl
theorem kw_667 : (Cond.constantLong "PatternTextModel" 88 96 : Cond) ∈ ga_tbl := ga_m (List.mem_of_getElem? (i := 667) (by decide +kernel)) rfl
theorem kw_668 : (Cond.constantLong "PatternTextModel" 97 5969497 : Cond) ∈ ga_tbl := ga_m (List.mem_of_getElem? (i := 668) (by decide +kernel)) rfl
theorem kw_669 : (Cond.methodLink "PatternTextModel" 77 ⟨"PatternTextModel", "bad", "(I)Z"⟩ : Cond) ∈ ga_tbl := ga_m (List.mem_of_getElem? (i := 669) (by decide +kernel)) rfl
theorem kl_670 : (Cond.privateMethod ⟨"PatternTextModel", "bad", "(I)Z"⟩ : Cond) ∈ lw_tbl := List.mem_of_getElem? (i := 670) (by decide +kernel)
theorem kw_671 : (Cond.instanceMethod ⟨"PatternTextModel", "bad", "(I)Z"⟩ : Cond) ∈ ga_tbl := ga_m (List.mem_of_getElem? (i := 671) (by decide +kernel)) rfl
theorem kw_672 : (Cond.code ⟨"PatternTextModel", "bad", "(I)Z"⟩ prog_7_method_5_code 2 (some .boolean) : Cond) ∈ ga_tbl := ga_m (List.mem_of_getElem? (i := 672) (by decide +kernel)) rfl
theorem kw_673 : (Cond.methodLink "PatternTextModel" 99 ⟨"PatternTextModel", "pass", "()V"⟩ : Cond) ∈ ga_tbl := ga_m (List.mem_of_getElem? (i := 673) (by decide +kernel)) rfl
theorem kl_674 : (Cond.privateMethod ⟨"PatternTextModel", "pass", "()V"⟩ : Cond) ∈ lw_tbl := List.mem_of_getElem? (i := 674) (by decide +kernel)
theorem kw_675 : (Cond.instanceMethod ⟨"PatternTextModel", "pass", "()V"⟩ : Cond) ∈ ga_tbl := ga_m (List.mem_of_getElem? (i := 675) (by decide +kernel)) rfl
theorem kw_676 : (Cond.code ⟨"PatternTextModel", "pass", "()V"⟩ prog_7_method_10_code 1 none : Cond) ∈ ga_tbl := ga_m (List.mem_of_getElem? (i := 676) (by decide +kernel)) rfl
theorem kw_677 : (Cond.methodLink "PatternTextModel" 102 ⟨"PatternTextModel", "space", "()Z"⟩ : Cond) ∈ ga_tbl := ga_m (List.mem_of_getElem? (i := 677) (by decide +kernel)) rfl
theorem kl_678 : (Cond.privateMethod ⟨"PatternTextModel", "space", "()Z"⟩ : Cond) ∈ lw_tbl := List.mem_of_getElem? (i := 678) (by decide +kernel)
theorem kw_679 : (Cond.instanceMethod ⟨"PatternTextModel", "space", "()Z"⟩ : Cond) ∈ ga_tbl := ga_m (List.mem_of_getElem? (i := 679) (by decide +kernel)) rfl
theorem kw_680 : (Cond.code ⟨"PatternTextModel", "space", "()Z"⟩ prog_7_method_8_code 1 (some .boolean) : Cond) ∈ ga_tbl := ga_m (List.mem_of_getElem? (i := 680) (by decide +kernel)) rfl
theorem kw_681 : (Cond.methodLink "PatternTextModel" 106 ⟨"PatternTextModel", "number", "(II)I"⟩ : Cond) ∈ ga_tbl := ga_m (List.mem_of_getElem? (i := 681) (by decide +kernel)) rfl
theorem kl_682 : (Cond.privateMethod ⟨"PatternTextModel", "number", "(II)I"⟩ : Cond) ∈ lw_tbl := List.mem_of_getElem? (i := 682) (by decide +kernel)
theorem kw_683 : (Cond.instanceMethod ⟨"PatternTextModel", "number", "(II)I"⟩ : Cond) ∈ ga_tbl := ga_m (List.mem_of_getElem? (i := 683) (by decide +kernel)) rfl
theorem kw_684 : (Cond.code ⟨"PatternTextModel", "number", "(II)I"⟩ prog_7_method_11_code 6 (some .int) : Cond) ∈ ga_tbl := ga_m (List.mem_of_getElem? (i := 684) (by decide +kernel)) rfl
theorem kw_685 : (Cond.methodLink "PatternTextModel" 90 ⟨"PatternTextModel", "isDigit", "(I)Z"⟩ : Cond) ∈ ga_tbl := ga_m (List.mem_of_getElem? (i := 685) (by decide +kernel)) rfl
theorem kw_686 : (Cond.static ⟨"PatternTextModel", "isDigit", "(I)Z"⟩ : Cond) ∈ ga_tbl := ga_m (List.mem_of_getElem? (i := 686) (by decide +kernel)) rfl
theorem kw_687 : (Cond.code ⟨"PatternTextModel", "isDigit", "(I)Z"⟩ prog_7_method_6_code 1 (some .boolean) : Cond) ∈ ga_tbl := ga_m (List.mem_of_getElem? (i := 687) (by decide +kernel)) rfl
theorem kw_688 : (Cond.constantLong "PatternTextModel" 110 132915 : Cond) ∈ ga_tbl := ga_m (List.mem_of_getElem? (i := 688) (by decide +kernel)) rfl
theorem kw_689 : (Cond.constantLong "PatternTextModel" 112 24286579 : Cond) ∈ ga_tbl := ga_m (List.mem_of_getElem? (i := 689) (by decide +kernel)) rfl
theorem kw_690 : (Cond.constantLong "PatternTextModel" 114 452415763 : Cond) ∈ ga_tbl := ga_m (List.mem_of_getElem? (i := 690) (by decide +kernel)) rfl
theorem kw_691 : (Cond.constantLong "PatternTextModel" 119 634160 : Cond) ∈ ga_tbl := ga_m (List.mem_of_getElem? (i := 691) (by decide +kernel)) rfl
theorem kw_692 : (Cond.constantLong "PatternTextModel" 121 351582372 : Cond) ∈ ga_tbl := ga_m (List.mem_of_getElem? (i := 692) (by decide +kernel)) rfl
theorem kw_693 : (Cond.constantLong "PatternTextModel" 123 754341285 : Cond) ∈ ga_tbl := ga_m (List.mem_of_getElem? (i := 693) (by decide +kernel)) rfl
theorem kw_694 : (Cond.constantLong "PatternTextModel" 125 19515704916 : Cond) ∈ ga_tbl := ga_m (List.mem_of_getElem? (i := 694) (by decide +kernel)) rfl
theorem kw_695 : (Cond.methodLink "PatternTextModel" 127 ⟨"PatternTextModel", "skip", "(I)Z"⟩ : Cond) ∈ ga_tbl := ga_m (List.mem_of_getElem? (i := 695) (by decide +kernel)) rfl
theorem kl_696 : (Cond.privateMethod ⟨"PatternTextModel", "skip", "(I)Z"⟩ : Cond) ∈ lw_tbl := List.mem_of_getElem? (i := 696) (by decide +kernel)
theorem kw_697 : (Cond.instanceMethod ⟨"PatternTextModel", "skip", "(I)Z"⟩ : Cond) ∈ ga_tbl := ga_m (List.mem_of_getElem? (i := 697) (by decide +kernel)) rfl
theorem kw_698 : (Cond.code ⟨"PatternTextModel", "skip", "(I)Z"⟩ prog_7_method_13_code 6 (some .boolean) : Cond) ∈ ga_tbl := ga_m (List.mem_of_getElem? (i := 698) (by decide +kernel)) rfl
theorem kw_699 : (Cond.methodLink "PatternTextLaw" 55 ⟨"PatternTextModel", "holiday", "(I)I"⟩ : Cond) ∈ ga_tbl := ga_m (List.mem_of_getElem? (i := 699) (by decide +kernel)) rfl
theorem kw_700 : (Cond.instanceMethod ⟨"PatternTextModel", "holiday", "(I)I"⟩ : Cond) ∈ ga_tbl := ga_m (List.mem_of_getElem? (i := 700) (by decide +kernel)) rfl
theorem kw_701 : (Cond.selects "PatternTextModel" ⟨"PatternTextModel", "holiday", "(I)I"⟩ ⟨"PatternTextModel", "holiday", "(I)I"⟩ : Cond) ∈ ga_tbl := ga_m (List.mem_of_getElem? (i := 701) (by decide +kernel)) rfl
theorem kw_702 : (Cond.code ⟨"PatternTextModel", "holiday", "(I)I"⟩ prog_7_method_19_code 2 (some .int) : Cond) ∈ ga_tbl := ga_m (List.mem_of_getElem? (i := 702) (by decide +kernel)) rfl
theorem kw_703 : (Cond.methodLink "PatternTextModel" 140 ⟨"PatternTextModel", "isDay", "(I)Z"⟩ : Cond) ∈ ga_tbl := ga_m (List.mem_of_getElem? (i := 703) (by decide +kernel)) rfl
theorem kw_704 : (Cond.static ⟨"PatternTextModel", "isDay", "(I)Z"⟩ : Cond) ∈ ga_tbl := ga_m (List.mem_of_getElem? (i := 704) (by decide +kernel)) rfl
theorem kw_705 : (Cond.code ⟨"PatternTextModel", "isDay", "(I)Z"⟩ prog_7_method_17_code 1 (some .boolean) : Cond) ∈ ga_tbl := ga_m (List.mem_of_getElem? (i := 705) (by decide +kernel)) rfl
theorem kw_706 : (Cond.constant "PatternTextModel" 136 1000000 : Cond) ∈ ga_tbl := ga_m (List.mem_of_getElem? (i := 706) (by decide +kernel)) rfl
theorem kw_707 : (Cond.methodLink "PatternTextModel" 143 ⟨"PatternTextModel", "isHoliday", "(I)Z"⟩ : Cond) ∈ ga_tbl := ga_m (List.mem_of_getElem? (i := 707) (by decide +kernel)) rfl
theorem kl_708 : (Cond.privateMethod ⟨"PatternTextModel", "isHoliday", "(I)Z"⟩ : Cond) ∈ lw_tbl := List.mem_of_getElem? (i := 708) (by decide +kernel)
theorem kw_709 : (Cond.instanceMethod ⟨"PatternTextModel", "isHoliday", "(I)Z"⟩ : Cond) ∈ ga_tbl := ga_m (List.mem_of_getElem? (i := 709) (by decide +kernel)) rfl
theorem kw_710 : (Cond.code ⟨"PatternTextModel", "isHoliday", "(I)Z"⟩ prog_7_method_18_code 4 (some .boolean) : Cond) ∈ ga_tbl := ga_m (List.mem_of_getElem? (i := 710) (by decide +kernel)) rfl
theorem kw_711 : (Cond.methodLink "PatternTextLaw" 32 ⟨"PatternTextModel", "foretell", "(III)I"⟩ : Cond) ∈ ga_tbl := ga_m (List.mem_of_getElem? (i := 711) (by decide +kernel)) rfl
theorem kw_712 : (Cond.instanceMethod ⟨"PatternTextModel", "foretell", "(III)I"⟩ : Cond) ∈ ga_tbl := ga_m (List.mem_of_getElem? (i := 712) (by decide +kernel)) rfl
theorem kw_713 : (Cond.selects "PatternTextModel" ⟨"PatternTextModel", "foretell", "(III)I"⟩ ⟨"PatternTextModel", "foretell", "(III)I"⟩ : Cond) ∈ ga_tbl := ga_m (List.mem_of_getElem? (i := 713) (by decide +kernel)) rfl
theorem kw_714 : (Cond.code ⟨"PatternTextModel", "foretell", "(III)I"⟩ prog_7_method_22_code 4 (some .int) : Cond) ∈ ga_tbl := ga_m (List.mem_of_getElem? (i := 714) (by decide +kernel)) rfl
theorem kw_715 : (Cond.methodLink "PatternTextModel" 153 ⟨"PatternTextModel", "isPattern", "(I)Z"⟩ : Cond) ∈ ga_tbl := ga_m (List.mem_of_getElem? (i := 715) (by decide +kernel)) rfl
theorem kl_716 : (Cond.privateMethod ⟨"PatternTextModel", "isPattern", "(I)Z"⟩ : Cond) ∈ lw_tbl := List.mem_of_getElem? (i := 716) (by decide +kernel)
theorem kw_717 : (Cond.instanceMethod ⟨"PatternTextModel", "isPattern", "(I)Z"⟩ : Cond) ∈ ga_tbl := ga_m (List.mem_of_getElem? (i := 717) (by decide +kernel)) rfl
theorem kw_718 : (Cond.code ⟨"PatternTextModel", "isPattern", "(I)Z"⟩ prog_7_method_16_code 2 (some .boolean) : Cond) ∈ ga_tbl := ga_m (List.mem_of_getElem? (i := 718) (by decide +kernel)) rfl
theorem kw_719 : (Cond.methodLink "PatternTextModel" 156 ⟨"PatternTextModel", "go", "(IIII)V"⟩ : Cond) ∈ ga_tbl := ga_m (List.mem_of_getElem? (i := 719) (by decide +kernel)) rfl
theorem kl_720 : (Cond.privateMethod ⟨"PatternTextModel", "go", "(IIII)V"⟩ : Cond) ∈ lw_tbl := List.mem_of_getElem? (i := 720) (by decide +kernel)
theorem kw_721 : (Cond.instanceMethod ⟨"PatternTextModel", "go", "(IIII)V"⟩ : Cond) ∈ ga_tbl := ga_m (List.mem_of_getElem? (i := 721) (by decide +kernel)) rfl
theorem kw_722 : (Cond.code ⟨"PatternTextModel", "go", "(IIII)V"⟩ prog_7_method_21_code 11 none : Cond) ∈ ga_tbl := ga_m (List.mem_of_getElem? (i := 722) (by decide +kernel)) rfl
theorem kw_723 : (Cond.methodLink "PatternTextModel" 146 ⟨"PatternTextModel", "has", "(II)Z"⟩ : Cond) ∈ ga_tbl := ga_m (List.mem_of_getElem? (i := 723) (by decide +kernel)) rfl
theorem kl_724 : (Cond.privateMethod ⟨"PatternTextModel", "has", "(II)Z"⟩ : Cond) ∈ lw_tbl := List.mem_of_getElem? (i := 724) (by decide +kernel)
theorem kw_725 : (Cond.instanceMethod ⟨"PatternTextModel", "has", "(II)Z"⟩ : Cond) ∈ ga_tbl := ga_m (List.mem_of_getElem? (i := 725) (by decide +kernel)) rfl
theorem kw_726 : (Cond.code ⟨"PatternTextModel", "has", "(II)Z"⟩ prog_7_method_20_code 3 (some .boolean) : Cond) ∈ ga_tbl := ga_m (List.mem_of_getElem? (i := 726) (by decide +kernel)) rfl
theorem kw_727 : (Cond.methodLink "PatternTextLaw" 37 ⟨"PatternTextModel", "changed", "(II)I"⟩ : Cond) ∈ ga_tbl := ga_m (List.mem_of_getElem? (i := 727) (by decide +kernel)) rfl
theorem kw_728 : (Cond.instanceMethod ⟨"PatternTextModel", "changed", "(II)I"⟩ : Cond) ∈ ga_tbl := ga_m (List.mem_of_getElem? (i := 728) (by decide +kernel)) rfl
theorem kw_729 : (Cond.selects "PatternTextModel" ⟨"PatternTextModel", "changed", "(II)I"⟩ ⟨"PatternTextModel", "changed", "(II)I"⟩ : Cond) ∈ ga_tbl := ga_m (List.mem_of_getElem? (i := 729) (by decide +kernel)) rfl
theorem kw_730 : (Cond.code ⟨"PatternTextModel", "changed", "(II)I"⟩ prog_7_method_23_code 5 (some .int) : Cond) ∈ ga_tbl := ga_m (List.mem_of_getElem? (i := 730) (by decide +kernel)) rfl
theorem kw_731 : (Cond.methodLink "PatternTextLaw" 41 ⟨"PatternTextModel", "issue", "(II)I"⟩ : Cond) ∈ ga_tbl := ga_m (List.mem_of_getElem? (i := 731) (by decide +kernel)) rfl
theorem kw_732 : (Cond.instanceMethod ⟨"PatternTextModel", "issue", "(II)I"⟩ : Cond) ∈ ga_tbl := ga_m (List.mem_of_getElem? (i := 732) (by decide +kernel)) rfl
theorem kw_733 : (Cond.selects "PatternTextModel" ⟨"PatternTextModel", "issue", "(II)I"⟩ ⟨"PatternTextModel", "issue", "(II)I"⟩ : Cond) ∈ ga_tbl := ga_m (List.mem_of_getElem? (i := 733) (by decide +kernel)) rfl
theorem kw_734 : (Cond.code ⟨"PatternTextModel", "issue", "(II)I"⟩ prog_7_method_26_code 4 (some .int) : Cond) ∈ ga_tbl := ga_m (List.mem_of_getElem? (i := 734) (by decide +kernel)) rfl
theorem kw_735 : (Cond.methodLink "PatternTextModel" 160 ⟨"PatternTextModel", "isIssue", "(I)Z"⟩ : Cond) ∈ ga_tbl := ga_m (List.mem_of_getElem? (i := 735) (by decide +kernel)) rfl
theorem kl_736 : (Cond.privateMethod ⟨"PatternTextModel", "isIssue", "(I)Z"⟩ : Cond) ∈ lw_tbl := List.mem_of_getElem? (i := 736) (by decide +kernel)
theorem kw_737 : (Cond.instanceMethod ⟨"PatternTextModel", "isIssue", "(I)Z"⟩ : Cond) ∈ ga_tbl := ga_m (List.mem_of_getElem? (i := 737) (by decide +kernel)) rfl
theorem kw_738 : (Cond.code ⟨"PatternTextModel", "isIssue", "(I)Z"⟩ prog_7_method_24_code 2 (some .boolean) : Cond) ∈ ga_tbl := ga_m (List.mem_of_getElem? (i := 738) (by decide +kernel)) rfl
theorem kw_739 : (Cond.methodLink "PatternTextModel" 163 ⟨"PatternTextModel", "told", "(II)I"⟩ : Cond) ∈ ga_tbl := ga_m (List.mem_of_getElem? (i := 739) (by decide +kernel)) rfl
theorem kl_740 : (Cond.privateMethod ⟨"PatternTextModel", "told", "(II)I"⟩ : Cond) ∈ lw_tbl := List.mem_of_getElem? (i := 740) (by decide +kernel)
theorem kw_741 : (Cond.instanceMethod ⟨"PatternTextModel", "told", "(II)I"⟩ : Cond) ∈ ga_tbl := ga_m (List.mem_of_getElem? (i := 741) (by decide +kernel)) rfl
theorem kw_742 : (Cond.code ⟨"PatternTextModel", "told", "(II)I"⟩ prog_7_method_25_code 3 (some .int) : Cond) ∈ ga_tbl := ga_m (List.mem_of_getElem? (i := 742) (by decide +kernel)) rfl
theorem kw_743 : (Cond.methodLink "PatternTextLaw" 46 ⟨"PatternTextModel", "date", "(I)J"⟩ : Cond) ∈ ga_tbl := ga_m (List.mem_of_getElem? (i := 743) (by decide +kernel)) rfl
theorem kw_744 : (Cond.instanceMethod ⟨"PatternTextModel", "date", "(I)J"⟩ : Cond) ∈ ga_tbl := ga_m (List.mem_of_getElem? (i := 744) (by decide +kernel)) rfl
theorem kw_745 : (Cond.selects "PatternTextModel" ⟨"PatternTextModel", "date", "(I)J"⟩ ⟨"PatternTextModel", "date", "(I)J"⟩ : Cond) ∈ ga_tbl := ga_m (List.mem_of_getElem? (i := 745) (by decide +kernel)) rfl
theorem kw_746 : (Cond.code ⟨"PatternTextModel", "date", "(I)J"⟩ prog_7_method_27_code 2 (some .long) : Cond) ∈ ga_tbl := ga_m (List.mem_of_getElem? (i := 746) (by decide +kernel)) rfl
theorem kw_747 : (Cond.methodLink "PatternTextLaw" 50 ⟨"PatternTextModel", "irregular", "(II)I"⟩ : Cond) ∈ ga_tbl := ga_m (List.mem_of_getElem? (i := 747) (by decide +kernel)) rfl
theorem kw_748 : (Cond.instanceMethod ⟨"PatternTextModel", "irregular", "(II)I"⟩ : Cond) ∈ ga_tbl := ga_m (List.mem_of_getElem? (i := 748) (by decide +kernel)) rfl
theorem kw_749 : (Cond.selects "PatternTextModel" ⟨"PatternTextModel", "irregular", "(II)I"⟩ ⟨"PatternTextModel", "irregular", "(II)I"⟩ : Cond) ∈ ga_tbl := ga_m (List.mem_of_getElem? (i := 749) (by decide +kernel)) rfl
theorem kw_750 : (Cond.code ⟨"PatternTextModel", "irregular", "(II)I"⟩ prog_7_method_28_code 3 (some .int) : Cond) ∈ ga_tbl := ga_m (List.mem_of_getElem? (i := 750) (by decide +kernel)) rfl
theorem kw_751 : (Cond.methodLink "PatternTextLaw" 59 ⟨"PatternTextModel", "came", "(II)I"⟩ : Cond) ∈ ga_tbl := ga_m (List.mem_of_getElem? (i := 751) (by decide +kernel)) rfl
theorem kw_752 : (Cond.instanceMethod ⟨"PatternTextModel", "came", "(II)I"⟩ : Cond) ∈ ga_tbl := ga_m (List.mem_of_getElem? (i := 752) (by decide +kernel)) rfl
theorem kw_753 : (Cond.selects "PatternTextModel" ⟨"PatternTextModel", "came", "(II)I"⟩ ⟨"PatternTextModel", "came", "(II)I"⟩ : Cond) ∈ ga_tbl := ga_m (List.mem_of_getElem? (i := 753) (by decide +kernel)) rfl
theorem kw_754 : (Cond.code ⟨"PatternTextModel", "came", "(II)I"⟩ prog_7_method_29_code 3 (some .int) : Cond) ∈ ga_tbl := ga_m (List.mem_of_getElem? (i := 754) (by decide +kernel)) rfl
theorem kw_755 : (Cond.methodLink "PatternTextLaw" 63 ⟨"PatternTextModel", "late", "(II)I"⟩ : Cond) ∈ ga_tbl := ga_m (List.mem_of_getElem? (i := 755) (by decide +kernel)) rfl
theorem kw_756 : (Cond.instanceMethod ⟨"PatternTextModel", "late", "(II)I"⟩ : Cond) ∈ ga_tbl := ga_m (List.mem_of_getElem? (i := 756) (by decide +kernel)) rfl
theorem kw_757 : (Cond.selects "PatternTextModel" ⟨"PatternTextModel", "late", "(II)I"⟩ ⟨"PatternTextModel", "late", "(II)I"⟩ : Cond) ∈ ga_tbl := ga_m (List.mem_of_getElem? (i := 757) (by decide +kernel)) rfl
theorem kw_758 : (Cond.code ⟨"PatternTextModel", "late", "(II)I"⟩ prog_7_method_31_code 3 (some .int) : Cond) ∈ ga_tbl := ga_m (List.mem_of_getElem? (i := 758) (by decide +kernel)) rfl
theorem kw_759 : (Cond.methodLink "PatternTextModel" 166 ⟨"PatternTextModel", "lateOn", "(II)I"⟩ : Cond) ∈ ga_tbl := ga_m (List.mem_of_getElem? (i := 759) (by decide +kernel)) rfl
theorem kl_760 : (Cond.privateMethod ⟨"PatternTextModel", "lateOn", "(II)I"⟩ : Cond) ∈ lw_tbl := List.mem_of_getElem? (i := 760) (by decide +kernel)
theorem kw_761 : (Cond.instanceMethod ⟨"PatternTextModel", "lateOn", "(II)I"⟩ : Cond) ∈ ga_tbl := ga_m (List.mem_of_getElem? (i := 761) (by decide +kernel)) rfl
theorem kw_762 : (Cond.code ⟨"PatternTextModel", "lateOn", "(II)I"⟩ prog_7_method_30_code 4 (some .int) : Cond) ∈ ga_tbl := ga_m (List.mem_of_getElem? (i := 762) (by decide +kernel)) rfl
theorem kw_763 : (Cond.methodLink "PatternTextLaw" 67 ⟨"PatternTextModel", "claim", "(II)I"⟩ : Cond) ∈ ga_tbl := ga_m (List.mem_of_getElem? (i := 763) (by decide +kernel)) rfl
theorem kw_764 : (Cond.instanceMethod ⟨"PatternTextModel", "claim", "(II)I"⟩ : Cond) ∈ ga_tbl := ga_m (List.mem_of_getElem? (i := 764) (by decide +kernel)) rfl
theorem kw_765 : (Cond.selects "PatternTextModel" ⟨"PatternTextModel", "claim", "(II)I"⟩ ⟨"PatternTextModel", "claim", "(II)I"⟩ : Cond) ∈ ga_tbl := ga_m (List.mem_of_getElem? (i := 765) (by decide +kernel)) rfl
theorem kw_766 : (Cond.code ⟨"PatternTextModel", "claim", "(II)I"⟩ prog_7_method_33_code 6 (some .int) : Cond) ∈ ga_tbl := ga_m (List.mem_of_getElem? (i := 766) (by decide +kernel)) rfl
theorem kw_767 : (Cond.methodLink "PatternTextModel" 169 ⟨"PatternTextModel", "isClaim", "(II)Z"⟩ : Cond) ∈ ga_tbl := ga_m (List.mem_of_getElem? (i := 767) (by decide +kernel)) rfl
theorem kl_768 : (Cond.privateMethod ⟨"PatternTextModel", "isClaim", "(II)Z"⟩ : Cond) ∈ lw_tbl := List.mem_of_getElem? (i := 768) (by decide +kernel)
theorem kw_769 : (Cond.instanceMethod ⟨"PatternTextModel", "isClaim", "(II)Z"⟩ : Cond) ∈ ga_tbl := ga_m (List.mem_of_getElem? (i := 769) (by decide +kernel)) rfl
theorem kw_770 : (Cond.code ⟨"PatternTextModel", "isClaim", "(II)Z"⟩ prog_7_method_32_code 3 (some .boolean) : Cond) ∈ ga_tbl := ga_m (List.mem_of_getElem? (i := 770) (by decide +kernel)) rfl
theorem kw_771 : (Cond.methodLink "PatternTextLaw" 71 ⟨"PatternTextModel", "print", "(I)I"⟩ : Cond) ∈ ga_tbl := ga_m (List.mem_of_getElem? (i := 771) (by decide +kernel)) rfl
theorem kw_772 : (Cond.instanceMethod ⟨"PatternTextModel", "print", "(I)I"⟩ : Cond) ∈ ga_tbl := ga_m (List.mem_of_getElem? (i := 772) (by decide +kernel)) rfl
theorem kw_773 : (Cond.selects "PatternTextModel" ⟨"PatternTextModel", "print", "(I)I"⟩ ⟨"PatternTextModel", "print", "(I)I"⟩ : Cond) ∈ ga_tbl := ga_m (List.mem_of_getElem? (i := 773) (by decide +kernel)) rfl
theorem kw_774 : (Cond.code ⟨"PatternTextModel", "print", "(I)I"⟩ prog_7_method_34_code 3 (some .int) : Cond) ∈ ga_tbl := ga_m (List.mem_of_getElem? (i := 774) (by decide +kernel)) rfl
theorem kw_775 : (Cond.methodLink "PatternTextLaw" 75 ⟨"PatternTextModel", "at", "(I)I"⟩ : Cond) ∈ ga_tbl := ga_m (List.mem_of_getElem? (i := 775) (by decide +kernel)) rfl
theorem kw_776 : (Cond.instanceMethod ⟨"PatternTextModel", "at", "(I)I"⟩ : Cond) ∈ ga_tbl := ga_m (List.mem_of_getElem? (i := 776) (by decide +kernel)) rfl
theorem kw_777 : (Cond.selects "PatternTextModel" ⟨"PatternTextModel", "at", "(I)I"⟩ ⟨"PatternTextModel", "at", "(I)I"⟩ : Cond) ∈ ga_tbl := ga_m (List.mem_of_getElem? (i := 777) (by decide +kernel)) rfl
theorem kw_778 : (Cond.code ⟨"PatternTextModel", "at", "(I)I"⟩ prog_7_method_35_code 2 (some .int) : Cond) ∈ ga_tbl := ga_m (List.mem_of_getElem? (i := 778) (by decide +kernel)) rfl
theorem kw_779 : (Cond.methodLink "PatternTextLaw" 81 ⟨"PatternTextModel", "yearly", "(III)I"⟩ : Cond) ∈ ga_tbl := ga_m (List.mem_of_getElem? (i := 779) (by decide +kernel)) rfl
theorem kw_780 : (Cond.instanceMethod ⟨"PatternTextModel", "yearly", "(III)I"⟩ : Cond) ∈ ga_tbl := ga_m (List.mem_of_getElem? (i := 780) (by decide +kernel)) rfl
theorem kw_781 : (Cond.selects "PatternTextModel" ⟨"PatternTextModel", "yearly", "(III)I"⟩ ⟨"PatternTextModel", "yearly", "(III)I"⟩ : Cond) ∈ ga_tbl := ga_m (List.mem_of_getElem? (i := 781) (by decide +kernel)) rfl
theorem kw_782 : (Cond.code ⟨"PatternTextModel", "yearly", "(III)I"⟩ prog_7_method_36_code 6 (some .int) : Cond) ∈ ga_tbl := ga_m (List.mem_of_getElem? (i := 782) (by decide +kernel)) rfl
theorem kw_783 : (Cond.arrayClass .long : Cond) ∈ ga_tbl := ga_m (List.mem_of_getElem? (i := 783) (by decide +kernel)) rfl
theorem kw_784 : (Cond.sameMethod "java/lang/Throwable" "java/lang/Throwable" "fillInStackTrace" "(I)Ljava/lang/Throwable;" : Cond) ∈ ga_tbl := ga_m (List.mem_of_getElem? (i := 784) (by decide +kernel)) rfl
theorem kw_785 : (Cond.fieldLink "java/lang/String" 9 "java/lang/String" "value" "[B" : Cond) ∈ ga_tbl := ga_m (List.mem_of_getElem? (i := 785) (by decide +kernel)) rfl
theorem kw_786 : (Cond.fieldLink "java/lang/String" 15 "java/lang/String" "coder" "B" : Cond) ∈ ga_tbl := ga_m (List.mem_of_getElem? (i := 786) (by decide +kernel)) rfl
