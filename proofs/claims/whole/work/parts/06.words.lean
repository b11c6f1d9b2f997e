theorem w_0 : Cond.initialized "FrontCacheLaw" ∈ ex_WS := ex_mem (List.mem_append_right _ (List.mem_of_getElem? (i := 0) (by decide +kernel))) (by decide +kernel)
theorem w_1 : Cond.initialized "FrontCache" ∈ ex_WS := ex_mem (List.mem_append_right _ (List.mem_of_getElem? (i := 1) (by decide +kernel))) (by decide +kernel)
theorem w_2 : Cond.initialized "FrontCache$Draft" ∈ ex_WS := ex_mem (List.mem_append_right _ (List.mem_of_getElem? (i := 2) (by decide +kernel))) (by decide +kernel)
theorem w_3 : Cond.initialized "FrontCache$Store" ∈ ex_WS := ex_mem (List.mem_append_right _ (List.mem_of_getElem? (i := 3) (by decide +kernel))) (by decide +kernel)
theorem w_4 : Cond.initialized "FrontCache$UnderWay" ∈ ex_WS := ex_mem (List.mem_append_right _ (List.mem_of_getElem? (i := 4) (by decide +kernel))) (by decide +kernel)
theorem w_5 : Cond.initialized "FrontCache$Resource" ∈ ex_WS := ex_mem (List.mem_append_right _ (List.mem_of_getElem? (i := 5) (by decide +kernel))) (by decide +kernel)
theorem w_6 : Cond.initialized "FrontCache$Control" ∈ ex_WS := ex_mem (List.mem_append_right _ (List.mem_of_getElem? (i := 6) (by decide +kernel))) (by decide +kernel)
theorem w_7 : Cond.initialized "java/util/Arrays" ∈ ex_WS := ex_mem (List.mem_append_right _ (List.mem_of_getElem? (i := 7) (by decide +kernel))) (by decide +kernel)
theorem w_8 : Cond.initialized "FrontCache$Origin" ∈ ex_WS := ex_mem (List.mem_append_right _ (List.mem_of_getElem? (i := 8) (by decide +kernel))) (by decide +kernel)
theorem w_9 : Cond.initialized "FrontCache$Connection" ∈ ex_WS := ex_mem (List.mem_append_right _ (List.mem_of_getElem? (i := 9) (by decide +kernel))) (by decide +kernel)
theorem w_10 : Cond.initialized "FrontCache$Message" ∈ ex_WS := ex_mem (List.mem_append_right _ (List.mem_of_getElem? (i := 10) (by decide +kernel))) (by decide +kernel)
theorem w_11 : Cond.initialized "FrontCacheModel" ∈ ex_WS := ex_mem (List.mem_append_right _ (List.mem_of_getElem? (i := 11) (by decide +kernel))) (by decide +kernel)
theorem w_12 : Cond.initialized "java/lang/String" ∈ ex_WS := ex_mem (List.mem_append_right _ (List.mem_of_getElem? (i := 12) (by decide +kernel))) (by decide +kernel)
theorem w_13 : Cond.initialized "java/lang/StringLatin1" ∈ ex_WS := ex_mem (List.mem_append_right _ (List.mem_of_getElem? (i := 13) (by decide +kernel))) (by decide +kernel)
theorem w_14 : Cond.initialized "jdk/internal/util/Preconditions" ∈ ex_WS := ex_mem (List.mem_append_right _ (List.mem_of_getElem? (i := 14) (by decide +kernel))) (by decide +kernel)
theorem w_16 : Cond.initialized "FrontCache$Request" ∈ ex_WS := ex_mem (List.mem_append_right _ (List.mem_of_getElem? (i := 16) (by decide +kernel))) (by decide +kernel)
theorem w_17 : Cond.initialized "java/lang/Math" ∈ ex_WS := ex_mem (List.mem_append_right _ (List.mem_of_getElem? (i := 17) (by decide +kernel))) (by decide +kernel)
theorem w_18 : Cond.initialized "FrontCache$Entry" ∈ ex_WS := ex_mem (List.mem_append_right _ (List.mem_of_getElem? (i := 18) (by decide +kernel))) (by decide +kernel)
theorem w_19 : Cond.classLink "FrontCacheLaw" 7 "FrontCache" ∈ ex_WS := ex_mem (List.mem_append_right _ (List.mem_of_getElem? (i := 19) (by decide +kernel))) (by decide +kernel)
theorem w_20 : Cond.instantiable "FrontCache" 11 ∈ ex_WS := ex_mem (List.mem_append_right _ (List.mem_of_getElem? (i := 20) (by decide +kernel))) (by decide +kernel)
theorem w_21 : Cond.methodLink "FrontCacheLaw" 15 ⟨"FrontCache", "<init>", "(I)V"⟩ ∈ ex_WS := ex_mem (List.mem_append_right _ (List.mem_of_getElem? (i := 21) (by decide +kernel))) (by decide +kernel)
theorem w_22 : Cond.instanceMethod ⟨"FrontCache", "<init>", "(I)V"⟩ ∈ ex_WS := ex_mem (List.mem_append_right _ (List.mem_of_getElem? (i := 22) (by decide +kernel))) (by decide +kernel)
theorem w_23 : Cond.code ⟨"FrontCache", "<init>", "(I)V"⟩ prog_1_method_1_code 3 none ∈ ex_WS := ex_mem (List.mem_append_right _ (List.mem_of_getElem? (i := 23) (by decide +kernel))) (by decide +kernel)
theorem w_24 : Cond.methodLink "FrontCache" 1 ⟨"java/lang/Object", "<init>", "()V"⟩ ∈ ex_WS := ex_mem (List.mem_append_right _ (List.mem_of_getElem? (i := 24) (by decide +kernel))) (by decide +kernel)
theorem w_25 : Cond.instanceMethod ⟨"java/lang/Object", "<init>", "()V"⟩ ∈ ex_WS := ex_mem (List.mem_append_right _ (List.mem_of_getElem? (i := 25) (by decide +kernel))) (by decide +kernel)
theorem w_26 : Cond.code ⟨"java/lang/Object", "<init>", "()V"⟩ object_method_1_code 1 none ∈ ex_WS := ex_mem (List.mem_append_right _ (List.mem_of_getElem? (i := 26) (by decide +kernel))) (by decide +kernel)
theorem w_27 : Cond.classLink "FrontCache" 7 "FrontCache$Draft" ∈ ex_WS := ex_mem (List.mem_append_right _ (List.mem_of_getElem? (i := 27) (by decide +kernel))) (by decide +kernel)
theorem w_28 : Cond.instantiable "FrontCache$Draft" 2 ∈ ex_WS := ex_mem (List.mem_append_right _ (List.mem_of_getElem? (i := 28) (by decide +kernel))) (by decide +kernel)
theorem w_30 : Cond.instanceMethod ⟨"FrontCache$Draft", "<init>", "()V"⟩ ∈ ex_WS := ex_mem (List.mem_append_right _ (List.mem_of_getElem? (i := 30) (by decide +kernel))) (by decide +kernel)
theorem w_31 : Cond.code ⟨"FrontCache$Draft", "<init>", "()V"⟩ prog_4_method_1_code 1 none ∈ ex_WS := ex_mem (List.mem_append_right _ (List.mem_of_getElem? (i := 31) (by decide +kernel))) (by decide +kernel)
theorem w_32 : Cond.methodLink "FrontCache$Draft" 3 ⟨"java/lang/Object", "<init>", "()V"⟩ ∈ ex_WS := ex_mem (List.mem_append_right _ (List.mem_of_getElem? (i := 32) (by decide +kernel))) (by decide +kernel)
theorem w_33 : Cond.fieldLink "FrontCache$Draft" 11 "FrontCache$Draft" "text" "[C" ∈ ex_WS := ex_mem (List.mem_append_right _ (List.mem_of_getElem? (i := 33) (by decide +kernel))) (by decide +kernel)
theorem w_34 : Cond.fieldLink "FrontCache$Draft" 15 "FrontCache$Draft" "length" "I" ∈ ex_WS := ex_mem (List.mem_append_right _ (List.mem_of_getElem? (i := 34) (by decide +kernel))) (by decide +kernel)
theorem w_40 : Cond.arrayClass FieldType.char ∈ ex_WS := ex_mem (List.mem_append_right _ (List.mem_of_getElem? (i := 40) (by decide +kernel))) (by decide +kernel)
theorem w_41 : Cond.classLink "FrontCache" 16 "FrontCache$Store" ∈ ex_WS := ex_mem (List.mem_append_right _ (List.mem_of_getElem? (i := 41) (by decide +kernel))) (by decide +kernel)
theorem w_42 : Cond.instantiable "FrontCache$Store" 4 ∈ ex_WS := ex_mem (List.mem_append_right _ (List.mem_of_getElem? (i := 42) (by decide +kernel))) (by decide +kernel)
theorem w_43 : Cond.methodLink "FrontCache" 18 ⟨"FrontCache$Store", "<init>", "(I)V"⟩ ∈ ex_WS := ex_mem (List.mem_append_right _ (List.mem_of_getElem? (i := 43) (by decide +kernel))) (by decide +kernel)
theorem w_44 : Cond.instanceMethod ⟨"FrontCache$Store", "<init>", "(I)V"⟩ ∈ ex_WS := ex_mem (List.mem_append_right _ (List.mem_of_getElem? (i := 44) (by decide +kernel))) (by decide +kernel)
theorem w_45 : Cond.code ⟨"FrontCache$Store", "<init>", "(I)V"⟩ prog_10_method_1_code 2 none ∈ ex_WS := ex_mem (List.mem_append_right _ (List.mem_of_getElem? (i := 45) (by decide +kernel))) (by decide +kernel)
theorem w_46 : Cond.methodLink "FrontCache$Store" 3 ⟨"java/lang/Object", "<init>", "()V"⟩ ∈ ex_WS := ex_mem (List.mem_append_right _ (List.mem_of_getElem? (i := 46) (by decide +kernel))) (by decide +kernel)
theorem w_47 : Cond.classLink "FrontCache$Store" 15 "FrontCache$Entry" ∈ ex_WS := ex_mem (List.mem_append_right _ (List.mem_of_getElem? (i := 47) (by decide +kernel))) (by decide +kernel)
theorem w_49 : Cond.fieldLink "FrontCache$Store" 9 "FrontCache$Store" "capacity" "I" ∈ ex_WS := ex_mem (List.mem_append_right _ (List.mem_of_getElem? (i := 49) (by decide +kernel))) (by decide +kernel)
theorem w_50 : Cond.fieldLink "FrontCache$Store" 17 "FrontCache$Store" "rows" "[LFrontCache$Entry;" ∈ ex_WS := ex_mem (List.mem_append_right _ (List.mem_of_getElem? (i := 50) (by decide +kernel))) (by decide +kernel)
theorem w_51 : Cond.fieldLink "FrontCache$Store" 55 "FrontCache$Store" "filled" "I" ∈ ex_WS := ex_mem (List.mem_append_right _ (List.mem_of_getElem? (i := 51) (by decide +kernel))) (by decide +kernel)
theorem w_52 : Cond.fieldLink "FrontCache$Store" 21 "FrontCache$Store" "count" "I" ∈ ex_WS := ex_mem (List.mem_append_right _ (List.mem_of_getElem? (i := 52) (by decide +kernel))) (by decide +kernel)
theorem w_63 : Cond.classLink "FrontCache" 25 "FrontCache$UnderWay" ∈ ex_WS := ex_mem (List.mem_append_right _ (List.mem_of_getElem? (i := 63) (by decide +kernel))) (by decide +kernel)
theorem w_64 : Cond.instantiable "FrontCache$UnderWay" 2 ∈ ex_WS := ex_mem (List.mem_append_right _ (List.mem_of_getElem? (i := 64) (by decide +kernel))) (by decide +kernel)
theorem w_66 : Cond.instanceMethod ⟨"FrontCache$UnderWay", "<init>", "()V"⟩ ∈ ex_WS := ex_mem (List.mem_append_right _ (List.mem_of_getElem? (i := 66) (by decide +kernel))) (by decide +kernel)
theorem w_67 : Cond.code ⟨"FrontCache$UnderWay", "<init>", "()V"⟩ prog_11_method_1_code 1 none ∈ ex_WS := ex_mem (List.mem_append_right _ (List.mem_of_getElem? (i := 67) (by decide +kernel))) (by decide +kernel)
theorem w_68 : Cond.methodLink "FrontCache$UnderWay" 1 ⟨"java/lang/Object", "<init>", "()V"⟩ ∈ ex_WS := ex_mem (List.mem_append_right _ (List.mem_of_getElem? (i := 68) (by decide +kernel))) (by decide +kernel)
theorem w_69 : Cond.classLink "FrontCache$UnderWay" 9 "FrontCache$Message" ∈ ex_WS := ex_mem (List.mem_append_right _ (List.mem_of_getElem? (i := 69) (by decide +kernel))) (by decide +kernel)
theorem w_71 : Cond.fieldLink "FrontCache$UnderWay" 11 "FrontCache$UnderWay" "messages" "[LFrontCache$Message;" ∈ ex_WS := ex_mem (List.mem_append_right _ (List.mem_of_getElem? (i := 71) (by decide +kernel))) (by decide +kernel)
theorem w_72 : Cond.fieldLink "FrontCache$UnderWay" 15 "FrontCache$UnderWay" "count" "I" ∈ ex_WS := ex_mem (List.mem_append_right _ (List.mem_of_getElem? (i := 72) (by decide +kernel))) (by decide +kernel)
theorem w_79 : Cond.classLink "FrontCache" 32 "FrontCache$Resource" ∈ ex_WS := ex_mem (List.mem_append_right _ (List.mem_of_getElem? (i := 79) (by decide +kernel))) (by decide +kernel)
theorem w_80 : Cond.instantiable "FrontCache$Resource" 4 ∈ ex_WS := ex_mem (List.mem_append_right _ (List.mem_of_getElem? (i := 80) (by decide +kernel))) (by decide +kernel)
theorem w_81 : Cond.classLink "FrontCache" 34 "FrontCache$Control" ∈ ex_WS := ex_mem (List.mem_append_right _ (List.mem_of_getElem? (i := 81) (by decide +kernel))) (by decide +kernel)
theorem w_82 : Cond.instantiable "FrontCache$Control" 1 ∈ ex_WS := ex_mem (List.mem_append_right _ (List.mem_of_getElem? (i := 82) (by decide +kernel))) (by decide +kernel)
theorem w_83 : Cond.methodLink "FrontCache" 36 ⟨"FrontCache$Control", "<init>", "()V"⟩ ∈ ex_WS := ex_mem (List.mem_append_right _ (List.mem_of_getElem? (i := 83) (by decide +kernel))) (by decide +kernel)
theorem w_84 : Cond.instanceMethod ⟨"FrontCache$Control", "<init>", "()V"⟩ ∈ ex_WS := ex_mem (List.mem_append_right _ (List.mem_of_getElem? (i := 84) (by decide +kernel))) (by decide +kernel)
theorem w_85 : Cond.code ⟨"FrontCache$Control", "<init>", "()V"⟩ prog_3_method_1_code 1 none ∈ ex_WS := ex_mem (List.mem_append_right _ (List.mem_of_getElem? (i := 85) (by decide +kernel))) (by decide +kernel)
theorem w_86 : Cond.methodLink "FrontCache$Control" 3 ⟨"java/lang/Object", "<init>", "()V"⟩ ∈ ex_WS := ex_mem (List.mem_append_right _ (List.mem_of_getElem? (i := 86) (by decide +kernel))) (by decide +kernel)
theorem w_87 : Cond.methodLink "FrontCache$Control" 15 ⟨"java/util/Arrays", "fill", "([II)V"⟩ ∈ ex_WS := ex_mem (List.mem_append_right _ (List.mem_of_getElem? (i := 87) (by decide +kernel))) (by decide +kernel)
theorem w_88 : Cond.static ⟨"java/util/Arrays", "fill", "([II)V"⟩ ∈ ex_WS := ex_mem (List.mem_append_right _ (List.mem_of_getElem? (i := 88) (by decide +kernel))) (by decide +kernel)
theorem w_89 : Cond.code ⟨"java/util/Arrays", "fill", "([II)V"⟩ prog_18_method_103_code 4 none ∈ ex_WS := ex_mem (List.mem_append_right _ (List.mem_of_getElem? (i := 89) (by decide +kernel))) (by decide +kernel)
theorem w_90 : Cond.fieldLink "FrontCache$Control" 11 "FrontCache$Control" "numbers" "[I" ∈ ex_WS := ex_mem (List.mem_append_right _ (List.mem_of_getElem? (i := 90) (by decide +kernel))) (by decide +kernel)
theorem w_94 : Cond.arrayClass FieldType.int ∈ ex_WS := ex_mem (List.mem_append_right _ (List.mem_of_getElem? (i := 94) (by decide +kernel))) (by decide +kernel)
theorem w_95 : Cond.methodLink "FrontCache" 37 ⟨"FrontCache$Resource", "<init>", "(IIZLFrontCache$Control;)V"⟩ ∈ ex_WS := ex_mem (List.mem_append_right _ (List.mem_of_getElem? (i := 95) (by decide +kernel))) (by decide +kernel)
theorem w_96 : Cond.instanceMethod ⟨"FrontCache$Resource", "<init>", "(IIZLFrontCache$Control;)V"⟩ ∈ ex_WS := ex_mem (List.mem_append_right _ (List.mem_of_getElem? (i := 96) (by decide +kernel))) (by decide +kernel)
theorem w_97 : Cond.code ⟨"FrontCache$Resource", "<init>", "(IIZLFrontCache$Control;)V"⟩ prog_9_method_1_code 5 none ∈ ex_WS := ex_mem (List.mem_append_right _ (List.mem_of_getElem? (i := 97) (by decide +kernel))) (by decide +kernel)
theorem w_98 : Cond.methodLink "FrontCache$Resource" 1 ⟨"java/lang/Object", "<init>", "()V"⟩ ∈ ex_WS := ex_mem (List.mem_append_right _ (List.mem_of_getElem? (i := 98) (by decide +kernel))) (by decide +kernel)
theorem w_99 : Cond.fieldLink "FrontCache$Resource" 7 "FrontCache$Resource" "version" "I" ∈ ex_WS := ex_mem (List.mem_append_right _ (List.mem_of_getElem? (i := 99) (by decide +kernel))) (by decide +kernel)
theorem w_100 : Cond.fieldLink "FrontCache" 222 "FrontCache$Resource" "version" "I" ∈ ex_WS := ex_mem (List.mem_append_right _ (List.mem_of_getElem? (i := 100) (by decide +kernel))) (by decide +kernel)
theorem w_101 : Cond.fieldLink "FrontCache$Resource" 13 "FrontCache$Resource" "size" "I" ∈ ex_WS := ex_mem (List.mem_append_right _ (List.mem_of_getElem? (i := 101) (by decide +kernel))) (by decide +kernel)
theorem w_102 : Cond.fieldLink "FrontCache$Store" 32 "FrontCache$Resource" "size" "I" ∈ ex_WS := ex_mem (List.mem_append_right _ (List.mem_of_getElem? (i := 102) (by decide +kernel))) (by decide +kernel)
theorem w_103 : Cond.fieldLink "FrontCache" 206 "FrontCache$Resource" "size" "I" ∈ ex_WS := ex_mem (List.mem_append_right _ (List.mem_of_getElem? (i := 103) (by decide +kernel))) (by decide +kernel)
theorem w_104 : Cond.fieldLink "FrontCache$Resource" 16 "FrontCache$Resource" "varies" "Z" ∈ ex_WS := ex_mem (List.mem_append_right _ (List.mem_of_getElem? (i := 104) (by decide +kernel))) (by decide +kernel)
theorem w_105 : Cond.fieldLink "FrontCache$Entry" 37 "FrontCache$Resource" "varies" "Z" ∈ ex_WS := ex_mem (List.mem_append_right _ (List.mem_of_getElem? (i := 105) (by decide +kernel))) (by decide +kernel)
theorem w_106 : Cond.fieldLink "FrontCache$Store" 37 "FrontCache$Resource" "varies" "Z" ∈ ex_WS := ex_mem (List.mem_append_right _ (List.mem_of_getElem? (i := 106) (by decide +kernel))) (by decide +kernel)
theorem w_107 : Cond.fieldLink "FrontCache" 209 "FrontCache$Resource" "varies" "Z" ∈ ex_WS := ex_mem (List.mem_append_right _ (List.mem_of_getElem? (i := 107) (by decide +kernel))) (by decide +kernel)
theorem w_108 : Cond.fieldLink "FrontCache$Resource" 20 "FrontCache$Resource" "control" "LFrontCache$Control;" ∈ ex_WS := ex_mem (List.mem_append_right _ (List.mem_of_getElem? (i := 108) (by decide +kernel))) (by decide +kernel)
theorem w_109 : Cond.fieldLink "FrontCache$Entry" 29 "FrontCache$Resource" "control" "LFrontCache$Control;" ∈ ex_WS := ex_mem (List.mem_append_right _ (List.mem_of_getElem? (i := 109) (by decide +kernel))) (by decide +kernel)
theorem w_110 : Cond.fieldLink "FrontCache" 292 "FrontCache$Resource" "control" "LFrontCache$Control;" ∈ ex_WS := ex_mem (List.mem_append_right _ (List.mem_of_getElem? (i := 110) (by decide +kernel))) (by decide +kernel)
theorem w_121 : Cond.classLink "FrontCache" 48 "FrontCache$Origin" ∈ ex_WS := ex_mem (List.mem_append_right _ (List.mem_of_getElem? (i := 121) (by decide +kernel))) (by decide +kernel)
theorem w_123 : Cond.classLink "FrontCache" 54 "FrontCache$Connection" ∈ ex_WS := ex_mem (List.mem_append_right _ (List.mem_of_getElem? (i := 123) (by decide +kernel))) (by decide +kernel)
theorem w_125 : Cond.instantiable "FrontCache$Origin" 3 ∈ ex_WS := ex_mem (List.mem_append_right _ (List.mem_of_getElem? (i := 125) (by decide +kernel))) (by decide +kernel)
theorem w_127 : Cond.instanceMethod ⟨"FrontCache$Origin", "<init>", "()V"⟩ ∈ ex_WS := ex_mem (List.mem_append_right _ (List.mem_of_getElem? (i := 127) (by decide +kernel))) (by decide +kernel)
theorem w_128 : Cond.code ⟨"FrontCache$Origin", "<init>", "()V"⟩ prog_7_method_1_code 1 none ∈ ex_WS := ex_mem (List.mem_append_right _ (List.mem_of_getElem? (i := 128) (by decide +kernel))) (by decide +kernel)
theorem w_129 : Cond.methodLink "FrontCache$Origin" 1 ⟨"java/lang/Object", "<init>", "()V"⟩ ∈ ex_WS := ex_mem (List.mem_append_right _ (List.mem_of_getElem? (i := 129) (by decide +kernel))) (by decide +kernel)
theorem w_130 : Cond.fieldLink "FrontCache$Origin" 7 "FrontCache$Origin" "runs" "Z" ∈ ex_WS := ex_mem (List.mem_append_right _ (List.mem_of_getElem? (i := 130) (by decide +kernel))) (by decide +kernel)
theorem w_131 : Cond.fieldLink "FrontCache" 147 "FrontCache$Origin" "runs" "Z" ∈ ex_WS := ex_mem (List.mem_append_right _ (List.mem_of_getElem? (i := 131) (by decide +kernel))) (by decide +kernel)
theorem w_132 : Cond.fieldLink "FrontCache" 277 "FrontCache$Origin" "lastNumber" "I" ∈ ex_WS := ex_mem (List.mem_append_right _ (List.mem_of_getElem? (i := 132) (by decide +kernel))) (by decide +kernel)
theorem w_133 : Cond.fieldLink "FrontCache" 284 "FrontCache$Origin" "lastAnswer" "LFrontCache$Message;" ∈ ex_WS := ex_mem (List.mem_append_right _ (List.mem_of_getElem? (i := 133) (by decide +kernel))) (by decide +kernel)
theorem w_141 : Cond.instantiable "FrontCache$Connection" 10 ∈ ex_WS := ex_mem (List.mem_append_right _ (List.mem_of_getElem? (i := 141) (by decide +kernel))) (by decide +kernel)
theorem w_142 : Cond.methodLink "FrontCache" 61 ⟨"FrontCache$Connection", "<init>", "(I)V"⟩ ∈ ex_WS := ex_mem (List.mem_append_right _ (List.mem_of_getElem? (i := 142) (by decide +kernel))) (by decide +kernel)
theorem w_143 : Cond.instanceMethod ⟨"FrontCache$Connection", "<init>", "(I)V"⟩ ∈ ex_WS := ex_mem (List.mem_append_right _ (List.mem_of_getElem? (i := 143) (by decide +kernel))) (by decide +kernel)
theorem w_144 : Cond.code ⟨"FrontCache$Connection", "<init>", "(I)V"⟩ prog_2_method_1_code 2 none ∈ ex_WS := ex_mem (List.mem_append_right _ (List.mem_of_getElem? (i := 144) (by decide +kernel))) (by decide +kernel)
theorem w_145 : Cond.methodLink "FrontCache$Connection" 3 ⟨"java/lang/Object", "<init>", "()V"⟩ ∈ ex_WS := ex_mem (List.mem_append_right _ (List.mem_of_getElem? (i := 145) (by decide +kernel))) (by decide +kernel)
theorem w_146 : Cond.classLink "FrontCache$Connection" 11 "FrontCache$Request" ∈ ex_WS := ex_mem (List.mem_append_right _ (List.mem_of_getElem? (i := 146) (by decide +kernel))) (by decide +kernel)
theorem w_148 : Cond.classLink "FrontCache$Connection" 21 "FrontCache$Message" ∈ ex_WS := ex_mem (List.mem_append_right _ (List.mem_of_getElem? (i := 148) (by decide +kernel))) (by decide +kernel)
theorem w_149 : Cond.instantiable "FrontCache$Message" 8 ∈ ex_WS := ex_mem (List.mem_append_right _ (List.mem_of_getElem? (i := 149) (by decide +kernel))) (by decide +kernel)
theorem w_150 : Cond.methodLink "FrontCache$Connection" 23 ⟨"FrontCache$Message", "<init>", "(IILFrontCache$Request;)V"⟩ ∈ ex_WS := ex_mem (List.mem_append_right _ (List.mem_of_getElem? (i := 150) (by decide +kernel))) (by decide +kernel)
theorem w_151 : Cond.instanceMethod ⟨"FrontCache$Message", "<init>", "(IILFrontCache$Request;)V"⟩ ∈ ex_WS := ex_mem (List.mem_append_right _ (List.mem_of_getElem? (i := 151) (by decide +kernel))) (by decide +kernel)
theorem w_152 : Cond.code ⟨"FrontCache$Message", "<init>", "(IILFrontCache$Request;)V"⟩ prog_6_method_1_code 4 none ∈ ex_WS := ex_mem (List.mem_append_right _ (List.mem_of_getElem? (i := 152) (by decide +kernel))) (by decide +kernel)
theorem w_153 : Cond.methodLink "FrontCache$Message" 1 ⟨"java/lang/Object", "<init>", "()V"⟩ ∈ ex_WS := ex_mem (List.mem_append_right _ (List.mem_of_getElem? (i := 153) (by decide +kernel))) (by decide +kernel)
theorem w_154 : Cond.fieldLink "FrontCache$Message" 7 "FrontCache$Message" "origin" "I" ∈ ex_WS := ex_mem (List.mem_append_right _ (List.mem_of_getElem? (i := 154) (by decide +kernel))) (by decide +kernel)
theorem w_155 : Cond.fieldLink "FrontCache" 172 "FrontCache$Message" "origin" "I" ∈ ex_WS := ex_mem (List.mem_append_right _ (List.mem_of_getElem? (i := 155) (by decide +kernel))) (by decide +kernel)
theorem w_156 : Cond.fieldLink "FrontCache$Message" 13 "FrontCache$Message" "isAnswer" "Z" ∈ ex_WS := ex_mem (List.mem_append_right _ (List.mem_of_getElem? (i := 156) (by decide +kernel))) (by decide +kernel)
theorem w_157 : Cond.fieldLink "FrontCache" 117 "FrontCache$Message" "isAnswer" "Z" ∈ ex_WS := ex_mem (List.mem_append_right _ (List.mem_of_getElem? (i := 157) (by decide +kernel))) (by decide +kernel)
theorem w_158 : Cond.fieldLink "FrontCache$Message" 17 "FrontCache$Message" "number" "I" ∈ ex_WS := ex_mem (List.mem_append_right _ (List.mem_of_getElem? (i := 158) (by decide +kernel))) (by decide +kernel)
theorem w_159 : Cond.fieldLink "FrontCache$Connection" 59 "FrontCache$Message" "number" "I" ∈ ex_WS := ex_mem (List.mem_append_right _ (List.mem_of_getElem? (i := 159) (by decide +kernel))) (by decide +kernel)
theorem w_160 : Cond.fieldLink "FrontCache" 175 "FrontCache$Message" "number" "I" ∈ ex_WS := ex_mem (List.mem_append_right _ (List.mem_of_getElem? (i := 160) (by decide +kernel))) (by decide +kernel)
theorem w_161 : Cond.fieldLink "FrontCache$Message" 25 "FrontCache$Message" "what" "I" ∈ ex_WS := ex_mem (List.mem_append_right _ (List.mem_of_getElem? (i := 161) (by decide +kernel))) (by decide +kernel)
theorem w_162 : Cond.fieldLink "FrontCache" 176 "FrontCache$Message" "what" "I" ∈ ex_WS := ex_mem (List.mem_append_right _ (List.mem_of_getElem? (i := 162) (by decide +kernel))) (by decide +kernel)
theorem w_163 : Cond.fieldLink "FrontCache$Message" 37 "FrontCache$Message" "tag" "I" ∈ ex_WS := ex_mem (List.mem_append_right _ (List.mem_of_getElem? (i := 163) (by decide +kernel))) (by decide +kernel)
theorem w_164 : Cond.fieldLink "FrontCache" 179 "FrontCache$Message" "tag" "I" ∈ ex_WS := ex_mem (List.mem_append_right _ (List.mem_of_getElem? (i := 164) (by decide +kernel))) (by decide +kernel)
theorem w_165 : Cond.fieldLink "FrontCache$Message" 38 "FrontCache$Message" "request" "LFrontCache$Request;" ∈ ex_WS := ex_mem (List.mem_append_right _ (List.mem_of_getElem? (i := 165) (by decide +kernel))) (by decide +kernel)
theorem w_166 : Cond.fieldLink "FrontCache" 270 "FrontCache$Message" "request" "LFrontCache$Request;" ∈ ex_WS := ex_mem (List.mem_append_right _ (List.mem_of_getElem? (i := 166) (by decide +kernel))) (by decide +kernel)
theorem w_167 : Cond.fieldLink "FrontCache$Message" 42 "FrontCache$Message" "resource" "LFrontCache$Resource;" ∈ ex_WS := ex_mem (List.mem_append_right _ (List.mem_of_getElem? (i := 167) (by decide +kernel))) (by decide +kernel)
theorem w_168 : Cond.fieldLink "FrontCache" 306 "FrontCache$Message" "resource" "LFrontCache$Resource;" ∈ ex_WS := ex_mem (List.mem_append_right _ (List.mem_of_getElem? (i := 168) (by decide +kernel))) (by decide +kernel)
theorem w_169 : Cond.fieldLink "FrontCache$Message" 46 "FrontCache$Message" "date" "I" ∈ ex_WS := ex_mem (List.mem_append_right _ (List.mem_of_getElem? (i := 169) (by decide +kernel))) (by decide +kernel)
theorem w_170 : Cond.fieldLink "FrontCache" 318 "FrontCache$Message" "date" "I" ∈ ex_WS := ex_mem (List.mem_append_right _ (List.mem_of_getElem? (i := 170) (by decide +kernel))) (by decide +kernel)
theorem w_188 : Cond.fieldLink "FrontCache$Connection" 17 "FrontCache$Connection" "origin" "I" ∈ ex_WS := ex_mem (List.mem_append_right _ (List.mem_of_getElem? (i := 188) (by decide +kernel))) (by decide +kernel)
theorem w_189 : Cond.fieldLink "FrontCache$Connection" 26 "FrontCache$Connection" "probe" "LFrontCache$Message;" ∈ ex_WS := ex_mem (List.mem_append_right _ (List.mem_of_getElem? (i := 189) (by decide +kernel))) (by decide +kernel)
theorem w_190 : Cond.fieldLink "FrontCache$Connection" 13 "FrontCache$Connection" "queue" "[LFrontCache$Request;" ∈ ex_WS := ex_mem (List.mem_append_right _ (List.mem_of_getElem? (i := 190) (by decide +kernel))) (by decide +kernel)
theorem w_191 : Cond.fieldLink "FrontCache$Connection" 37 "FrontCache$Connection" "count" "I" ∈ ex_WS := ex_mem (List.mem_append_right _ (List.mem_of_getElem? (i := 191) (by decide +kernel))) (by decide +kernel)
theorem w_193 : Cond.fieldLink "FrontCache$Connection" 44 "FrontCache$Connection" "lastNumber" "I" ∈ ex_WS := ex_mem (List.mem_append_right _ (List.mem_of_getElem? (i := 193) (by decide +kernel))) (by decide +kernel)
theorem w_194 : Cond.fieldLink "FrontCache$Connection" 47 "FrontCache$Connection" "work" "LFrontCache$Message;" ∈ ex_WS := ex_mem (List.mem_append_right _ (List.mem_of_getElem? (i := 194) (by decide +kernel))) (by decide +kernel)
theorem w_195 : Cond.fieldLink "FrontCache$Connection" 50 "FrontCache$Connection" "workSince" "I" ∈ ex_WS := ex_mem (List.mem_append_right _ (List.mem_of_getElem? (i := 195) (by decide +kernel))) (by decide +kernel)
theorem w_196 : Cond.fieldLink "FrontCache$Connection" 62 "FrontCache$Connection" "givenUpInRow" "I" ∈ ex_WS := ex_mem (List.mem_append_right _ (List.mem_of_getElem? (i := 196) (by decide +kernel))) (by decide +kernel)
theorem w_197 : Cond.fieldLink "FrontCache$Connection" 30 "FrontCache$Connection" "isDown" "Z" ∈ ex_WS := ex_mem (List.mem_append_right _ (List.mem_of_getElem? (i := 197) (by decide +kernel))) (by decide +kernel)
theorem w_199 : Cond.fieldLink "FrontCache$Connection" 69 "FrontCache$Connection" "downSince" "I" ∈ ex_WS := ex_mem (List.mem_append_right _ (List.mem_of_getElem? (i := 199) (by decide +kernel))) (by decide +kernel)
theorem w_221 : Cond.classLink "FrontCache" 62 "FrontCache$Request" ∈ ex_WS := ex_mem (List.mem_append_right _ (List.mem_of_getElem? (i := 221) (by decide +kernel))) (by decide +kernel)
theorem w_222 : Cond.fieldLink "FrontCache" 10 "FrontCache" "draft" "LFrontCache$Draft;" ∈ ex_WS := ex_mem (List.mem_append_right _ (List.mem_of_getElem? (i := 222) (by decide +kernel))) (by decide +kernel)
theorem w_223 : Cond.fieldLink "FrontCache" 21 "FrontCache" "store" "LFrontCache$Store;" ∈ ex_WS := ex_mem (List.mem_append_right _ (List.mem_of_getElem? (i := 223) (by decide +kernel))) (by decide +kernel)
theorem w_224 : Cond.fieldLink "FrontCache" 28 "FrontCache" "underWay" "LFrontCache$UnderWay;" ∈ ex_WS := ex_mem (List.mem_append_right _ (List.mem_of_getElem? (i := 224) (by decide +kernel))) (by decide +kernel)
theorem w_225 : Cond.fieldLink "FrontCache" 40 "FrontCache" "absent" "LFrontCache$Resource;" ∈ ex_WS := ex_mem (List.mem_append_right _ (List.mem_of_getElem? (i := 225) (by decide +kernel))) (by decide +kernel)
theorem w_226 : Cond.fieldLink "FrontCache" 44 "FrontCache" "resources" "[LFrontCache$Resource;" ∈ ex_WS := ex_mem (List.mem_append_right _ (List.mem_of_getElem? (i := 226) (by decide +kernel))) (by decide +kernel)
theorem w_227 : Cond.fieldLink "FrontCache" 50 "FrontCache" "origins" "[LFrontCache$Origin;" ∈ ex_WS := ex_mem (List.mem_append_right _ (List.mem_of_getElem? (i := 227) (by decide +kernel))) (by decide +kernel)
theorem w_228 : Cond.fieldLink "FrontCache" 56 "FrontCache" "connections" "[LFrontCache$Connection;" ∈ ex_WS := ex_mem (List.mem_append_right _ (List.mem_of_getElem? (i := 228) (by decide +kernel))) (by decide +kernel)
theorem w_229 : Cond.fieldLink "FrontCache" 64 "FrontCache" "latestRequests" "[LFrontCache$Request;" ∈ ex_WS := ex_mem (List.mem_append_right _ (List.mem_of_getElem? (i := 229) (by decide +kernel))) (by decide +kernel)
theorem w_230 : Cond.fieldLink "FrontCache" 137 "FrontCache" "time" "I" ∈ ex_WS := ex_mem (List.mem_append_right _ (List.mem_of_getElem? (i := 230) (by decide +kernel))) (by decide +kernel)
theorem w_231 : Cond.fieldLink "FrontCache" 225 "FrontCache" "lastVersion" "I" ∈ ex_WS := ex_mem (List.mem_append_right _ (List.mem_of_getElem? (i := 231) (by decide +kernel))) (by decide +kernel)
theorem w_232 : Cond.fieldLink "FrontCache" 150 "FrontCache" "lastRequest" "I" ∈ ex_WS := ex_mem (List.mem_append_right _ (List.mem_of_getElem? (i := 232) (by decide +kernel))) (by decide +kernel)
theorem w_256 : Cond.methodLink "FrontCacheLaw" 21 ⟨"FrontCache", "type", "(C)Z"⟩ ∈ ex_WS := ex_mem (List.mem_append_right _ (List.mem_of_getElem? (i := 256) (by decide +kernel))) (by decide +kernel)
theorem w_257 : Cond.instanceMethod ⟨"FrontCache", "type", "(C)Z"⟩ ∈ ex_WS := ex_mem (List.mem_append_right _ (List.mem_of_getElem? (i := 257) (by decide +kernel))) (by decide +kernel)
theorem w_258 : Cond.selects "FrontCache" ⟨"FrontCache", "type", "(C)Z"⟩ ⟨"FrontCache", "type", "(C)Z"⟩ ∈ ex_WS := ex_mem (List.mem_append_right _ (List.mem_of_getElem? (i := 258) (by decide +kernel))) (by decide +kernel)
theorem w_259 : Cond.code ⟨"FrontCache", "type", "(C)Z"⟩ prog_1_method_2_code 2 (some FieldType.boolean) ∈ ex_WS := ex_mem (List.mem_append_right _ (List.mem_of_getElem? (i := 259) (by decide +kernel))) (by decide +kernel)
theorem w_260 : Cond.methodLink "FrontCache" 68 ⟨"FrontCache$Draft", "append", "(C)Z"⟩ ∈ ex_WS := ex_mem (List.mem_append_right _ (List.mem_of_getElem? (i := 260) (by decide +kernel))) (by decide +kernel)
theorem w_261 : Cond.instanceMethod ⟨"FrontCache$Draft", "append", "(C)Z"⟩ ∈ ex_WS := ex_mem (List.mem_append_right _ (List.mem_of_getElem? (i := 261) (by decide +kernel))) (by decide +kernel)
theorem w_262 : Cond.selects "FrontCache$Draft" ⟨"FrontCache$Draft", "append", "(C)Z"⟩ ⟨"FrontCache$Draft", "append", "(C)Z"⟩ ∈ ex_WS := ex_mem (List.mem_append_right _ (List.mem_of_getElem? (i := 262) (by decide +kernel))) (by decide +kernel)
theorem w_263 : Cond.code ⟨"FrontCache$Draft", "append", "(C)Z"⟩ prog_4_method_2_code 2 (some FieldType.boolean) ∈ ex_WS := ex_mem (List.mem_append_right _ (List.mem_of_getElem? (i := 263) (by decide +kernel))) (by decide +kernel)
theorem w_264 : Cond.methodLink "FrontCacheLaw" 26 ⟨"FrontCache", "publish", "(IIZ)I"⟩ ∈ ex_WS := ex_mem (List.mem_append_right _ (List.mem_of_getElem? (i := 264) (by decide +kernel))) (by decide +kernel)
theorem w_265 : Cond.instanceMethod ⟨"FrontCache", "publish", "(IIZ)I"⟩ ∈ ex_WS := ex_mem (List.mem_append_right _ (List.mem_of_getElem? (i := 265) (by decide +kernel))) (by decide +kernel)
theorem w_266 : Cond.selects "FrontCache" ⟨"FrontCache", "publish", "(IIZ)I"⟩ ⟨"FrontCache", "publish", "(IIZ)I"⟩ ∈ ex_WS := ex_mem (List.mem_append_right _ (List.mem_of_getElem? (i := 266) (by decide +kernel))) (by decide +kernel)
theorem w_267 : Cond.code ⟨"FrontCache", "publish", "(IIZ)I"⟩ prog_1_method_3_code 4 (some FieldType.int) ∈ ex_WS := ex_mem (List.mem_append_right _ (List.mem_of_getElem? (i := 267) (by decide +kernel))) (by decide +kernel)
theorem w_268 : Cond.methodLink "FrontCache" 72 ⟨"FrontCache", "isPath", "(I)Z"⟩ ∈ ex_WS := ex_mem (List.mem_append_right _ (List.mem_of_getElem? (i := 268) (by decide +kernel))) (by decide +kernel)
theorem w_269 : Cond.static ⟨"FrontCache", "isPath", "(I)Z"⟩ ∈ ex_WS := ex_mem (List.mem_append_right _ (List.mem_of_getElem? (i := 269) (by decide +kernel))) (by decide +kernel)
theorem w_270 : Cond.code ⟨"FrontCache", "isPath", "(I)Z"⟩ prog_1_method_21_code 1 (some FieldType.boolean) ∈ ex_WS := ex_mem (List.mem_append_right _ (List.mem_of_getElem? (i := 270) (by decide +kernel))) (by decide +kernel)
theorem w_271 : Cond.methodLink "FrontCache" 76 ⟨"FrontCache", "isSize", "(I)Z"⟩ ∈ ex_WS := ex_mem (List.mem_append_right _ (List.mem_of_getElem? (i := 271) (by decide +kernel))) (by decide +kernel)
theorem w_272 : Cond.static ⟨"FrontCache", "isSize", "(I)Z"⟩ ∈ ex_WS := ex_mem (List.mem_append_right _ (List.mem_of_getElem? (i := 272) (by decide +kernel))) (by decide +kernel)
theorem w_273 : Cond.code ⟨"FrontCache", "isSize", "(I)Z"⟩ prog_1_method_23_code 1 (some FieldType.boolean) ∈ ex_WS := ex_mem (List.mem_append_right _ (List.mem_of_getElem? (i := 273) (by decide +kernel))) (by decide +kernel)
theorem w_274 : Cond.methodLink "FrontCache" 79 ⟨"FrontCache$Draft", "takeControl", "()LFrontCache$Control;"⟩ ∈ ex_WS := ex_mem (List.mem_append_right _ (List.mem_of_getElem? (i := 274) (by decide +kernel))) (by decide +kernel)
theorem w_275 : Cond.instanceMethod ⟨"FrontCache$Draft", "takeControl", "()LFrontCache$Control;"⟩ ∈ ex_WS := ex_mem (List.mem_append_right _ (List.mem_of_getElem? (i := 275) (by decide +kernel))) (by decide +kernel)
theorem w_276 : Cond.selects "FrontCache$Draft" ⟨"FrontCache$Draft", "takeControl", "()LFrontCache$Control;"⟩ ⟨"FrontCache$Draft", "takeControl", "()LFrontCache$Control;"⟩ ∈ ex_WS := ex_mem (List.mem_append_right _ (List.mem_of_getElem? (i := 276) (by decide +kernel))) (by decide +kernel)
theorem w_277 : Cond.code ⟨"FrontCache$Draft", "takeControl", "()LFrontCache$Control;"⟩ prog_4_method_3_code 4 (some (FieldType.object "FrontCache$Control")) ∈ ex_WS := ex_mem (List.mem_append_right _ (List.mem_of_getElem? (i := 277) (by decide +kernel))) (by decide +kernel)
theorem w_278 : Cond.classLink "FrontCache$Draft" 19 "FrontCache$Control" ∈ ex_WS := ex_mem (List.mem_append_right _ (List.mem_of_getElem? (i := 278) (by decide +kernel))) (by decide +kernel)
theorem w_279 : Cond.methodLink "FrontCache$Draft" 21 ⟨"FrontCache$Control", "<init>", "()V"⟩ ∈ ex_WS := ex_mem (List.mem_append_right _ (List.mem_of_getElem? (i := 279) (by decide +kernel))) (by decide +kernel)
theorem w_280 : Cond.methodLink "FrontCache$Draft" 22 ⟨"FrontCache$Draft", "readElement", "(LFrontCache$Control;II)V"⟩ ∈ ex_WS := ex_mem (List.mem_append_right _ (List.mem_of_getElem? (i := 280) (by decide +kernel))) (by decide +kernel)
theorem w_282 : Cond.instanceMethod ⟨"FrontCache$Draft", "readElement", "(LFrontCache$Control;II)V"⟩ ∈ ex_WS := ex_mem (List.mem_append_right _ (List.mem_of_getElem? (i := 282) (by decide +kernel))) (by decide +kernel)
theorem w_283 : Cond.code ⟨"FrontCache$Draft", "readElement", "(LFrontCache$Control;II)V"⟩ prog_4_method_4_code 9 none ∈ ex_WS := ex_mem (List.mem_append_right _ (List.mem_of_getElem? (i := 283) (by decide +kernel))) (by decide +kernel)
theorem w_284 : Cond.methodLink "FrontCache$Draft" 26 ⟨"FrontCache$Draft", "isOfName", "(C)Z"⟩ ∈ ex_WS := ex_mem (List.mem_append_right _ (List.mem_of_getElem? (i := 284) (by decide +kernel))) (by decide +kernel)
theorem w_285 : Cond.static ⟨"FrontCache$Draft", "isOfName", "(C)Z"⟩ ∈ ex_WS := ex_mem (List.mem_append_right _ (List.mem_of_getElem? (i := 285) (by decide +kernel))) (by decide +kernel)
theorem w_286 : Cond.code ⟨"FrontCache$Draft", "isOfName", "(C)Z"⟩ prog_4_method_5_code 1 (some FieldType.boolean) ∈ ex_WS := ex_mem (List.mem_append_right _ (List.mem_of_getElem? (i := 286) (by decide +kernel))) (by decide +kernel)
theorem w_287 : Cond.methodLink "FrontCache$Draft" 30 ⟨"FrontCache$Draft", "numberFrom", "(II)I"⟩ ∈ ex_WS := ex_mem (List.mem_append_right _ (List.mem_of_getElem? (i := 287) (by decide +kernel))) (by decide +kernel)
theorem w_289 : Cond.instanceMethod ⟨"FrontCache$Draft", "numberFrom", "(II)I"⟩ ∈ ex_WS := ex_mem (List.mem_append_right _ (List.mem_of_getElem? (i := 289) (by decide +kernel))) (by decide +kernel)
theorem w_290 : Cond.code ⟨"FrontCache$Draft", "numberFrom", "(II)I"⟩ prog_4_method_6_code 6 (some FieldType.int) ∈ ex_WS := ex_mem (List.mem_append_right _ (List.mem_of_getElem? (i := 290) (by decide +kernel))) (by decide +kernel)
theorem w_291 : Cond.methodLink "FrontCache$Draft" 34 ⟨"FrontCache$Draft", "directiveAt", "(II)I"⟩ ∈ ex_WS := ex_mem (List.mem_append_right _ (List.mem_of_getElem? (i := 291) (by decide +kernel))) (by decide +kernel)
theorem w_293 : Cond.instanceMethod ⟨"FrontCache$Draft", "directiveAt", "(II)I"⟩ ∈ ex_WS := ex_mem (List.mem_append_right _ (List.mem_of_getElem? (i := 293) (by decide +kernel))) (by decide +kernel)
theorem w_294 : Cond.code ⟨"FrontCache$Draft", "directiveAt", "(II)I"⟩ prog_4_method_7_code 4 (some FieldType.int) ∈ ex_WS := ex_mem (List.mem_append_right _ (List.mem_of_getElem? (i := 294) (by decide +kernel))) (by decide +kernel)
theorem w_295 : Cond.methodLink "FrontCache$Draft" 41 ⟨"FrontCache$Control", "nameOf", "(I)Ljava/lang/String;"⟩ ∈ ex_WS := ex_mem (List.mem_append_right _ (List.mem_of_getElem? (i := 295) (by decide +kernel))) (by decide +kernel)
theorem w_296 : Cond.static ⟨"FrontCache$Control", "nameOf", "(I)Ljava/lang/String;"⟩ ∈ ex_WS := ex_mem (List.mem_append_right _ (List.mem_of_getElem? (i := 296) (by decide +kernel))) (by decide +kernel)
theorem w_297 : Cond.code ⟨"FrontCache$Control", "nameOf", "(I)Ljava/lang/String;"⟩ prog_3_method_2_code 1 (some (FieldType.object "java/lang/String")) ∈ ex_WS := ex_mem (List.mem_append_right _ (List.mem_of_getElem? (i := 297) (by decide +kernel))) (by decide +kernel)
theorem w_305 : Cond.methodLink "FrontCache$Draft" 45 ⟨"FrontCache$Draft", "stands", "(Ljava/lang/String;II)Z"⟩ ∈ ex_WS := ex_mem (List.mem_append_right _ (List.mem_of_getElem? (i := 305) (by decide +kernel))) (by decide +kernel)
theorem w_307 : Cond.instanceMethod ⟨"FrontCache$Draft", "stands", "(Ljava/lang/String;II)Z"⟩ ∈ ex_WS := ex_mem (List.mem_append_right _ (List.mem_of_getElem? (i := 307) (by decide +kernel))) (by decide +kernel)
theorem w_308 : Cond.code ⟨"FrontCache$Draft", "stands", "(Ljava/lang/String;II)Z"⟩ prog_4_method_8_code 5 (some FieldType.boolean) ∈ ex_WS := ex_mem (List.mem_append_right _ (List.mem_of_getElem? (i := 308) (by decide +kernel))) (by decide +kernel)
theorem w_309 : Cond.methodLink "FrontCache$Draft" 49 ⟨"java/lang/String", "length", "()I"⟩ ∈ ex_WS := ex_mem (List.mem_append_right _ (List.mem_of_getElem? (i := 309) (by decide +kernel))) (by decide +kernel)
theorem w_310 : Cond.instanceMethod ⟨"java/lang/String", "length", "()I"⟩ ∈ ex_WS := ex_mem (List.mem_append_right _ (List.mem_of_getElem? (i := 310) (by decide +kernel))) (by decide +kernel)
theorem w_311 : Cond.selects "java/lang/String" ⟨"java/lang/String", "length", "()I"⟩ ⟨"java/lang/String", "length", "()I"⟩ ∈ ex_WS := ex_mem (List.mem_append_right _ (List.mem_of_getElem? (i := 311) (by decide +kernel))) (by decide +kernel)
theorem w_312 : Cond.code ⟨"java/lang/String", "length", "()I"⟩ prog_15_method_54_code 1 (some FieldType.int) ∈ ex_WS := ex_mem (List.mem_append_right _ (List.mem_of_getElem? (i := 312) (by decide +kernel))) (by decide +kernel)
theorem w_313 : Cond.methodLink "java/lang/String" 335 ⟨"java/lang/String", "coder", "()B"⟩ ∈ ex_WS := ex_mem (List.mem_append_right _ (List.mem_of_getElem? (i := 313) (by decide +kernel))) (by decide +kernel)
theorem w_314 : Cond.instanceMethod ⟨"java/lang/String", "coder", "()B"⟩ ∈ ex_WS := ex_mem (List.mem_append_right _ (List.mem_of_getElem? (i := 314) (by decide +kernel))) (by decide +kernel)
theorem w_315 : Cond.selects "java/lang/String" ⟨"java/lang/String", "coder", "()B"⟩ ⟨"java/lang/String", "coder", "()B"⟩ ∈ ex_WS := ex_mem (List.mem_append_right _ (List.mem_of_getElem? (i := 315) (by decide +kernel))) (by decide +kernel)
theorem w_316 : Cond.code ⟨"java/lang/String", "coder", "()B"⟩ prog_15_method_152_code 1 (some FieldType.byte) ∈ ex_WS := ex_mem (List.mem_append_right _ (List.mem_of_getElem? (i := 316) (by decide +kernel))) (by decide +kernel)
theorem w_317 : Cond.fieldLink "java/lang/String" 38 "java/lang/String" "COMPACT_STRINGS" "Z" ∈ ex_WS := ex_mem (List.mem_append_right _ (List.mem_of_getElem? (i := 317) (by decide +kernel))) (by decide +kernel)
theorem w_319 : Cond.methodLink "FrontCache$Draft" 54 ⟨"java/lang/String", "charAt", "(I)C"⟩ ∈ ex_WS := ex_mem (List.mem_append_right _ (List.mem_of_getElem? (i := 319) (by decide +kernel))) (by decide +kernel)
theorem w_320 : Cond.instanceMethod ⟨"java/lang/String", "charAt", "(I)C"⟩ ∈ ex_WS := ex_mem (List.mem_append_right _ (List.mem_of_getElem? (i := 320) (by decide +kernel))) (by decide +kernel)
theorem w_321 : Cond.selects "java/lang/String" ⟨"java/lang/String", "charAt", "(I)C"⟩ ⟨"java/lang/String", "charAt", "(I)C"⟩ ∈ ex_WS := ex_mem (List.mem_append_right _ (List.mem_of_getElem? (i := 321) (by decide +kernel))) (by decide +kernel)
theorem w_322 : Cond.code ⟨"java/lang/String", "charAt", "(I)C"⟩ prog_15_method_56_code 2 (some FieldType.char) ∈ ex_WS := ex_mem (List.mem_append_right _ (List.mem_of_getElem? (i := 322) (by decide +kernel))) (by decide +kernel)
theorem w_323 : Cond.methodLink "java/lang/String" 492 ⟨"java/lang/String", "isLatin1", "()Z"⟩ ∈ ex_WS := ex_mem (List.mem_append_right _ (List.mem_of_getElem? (i := 323) (by decide +kernel))) (by decide +kernel)
theorem w_324 : Cond.instanceMethod ⟨"java/lang/String", "isLatin1", "()Z"⟩ ∈ ex_WS := ex_mem (List.mem_append_right _ (List.mem_of_getElem? (i := 324) (by decide +kernel))) (by decide +kernel)
theorem w_325 : Cond.selects "java/lang/String" ⟨"java/lang/String", "isLatin1", "()Z"⟩ ⟨"java/lang/String", "isLatin1", "()Z"⟩ ∈ ex_WS := ex_mem (List.mem_append_right _ (List.mem_of_getElem? (i := 325) (by decide +kernel))) (by decide +kernel)
theorem w_326 : Cond.code ⟨"java/lang/String", "isLatin1", "()Z"⟩ prog_15_method_154_code 1 (some FieldType.boolean) ∈ ex_WS := ex_mem (List.mem_append_right _ (List.mem_of_getElem? (i := 326) (by decide +kernel))) (by decide +kernel)
theorem w_327 : Cond.methodLink "java/lang/String" 495 ⟨"java/lang/StringLatin1", "charAt", "([BI)C"⟩ ∈ ex_WS := ex_mem (List.mem_append_right _ (List.mem_of_getElem? (i := 327) (by decide +kernel))) (by decide +kernel)
theorem w_328 : Cond.static ⟨"java/lang/StringLatin1", "charAt", "([BI)C"⟩ ∈ ex_WS := ex_mem (List.mem_append_right _ (List.mem_of_getElem? (i := 328) (by decide +kernel))) (by decide +kernel)
theorem w_329 : Cond.code ⟨"java/lang/StringLatin1", "charAt", "([BI)C"⟩ prog_16_method_2_code 2 (some FieldType.char) ∈ ex_WS := ex_mem (List.mem_append_right _ (List.mem_of_getElem? (i := 329) (by decide +kernel))) (by decide +kernel)
theorem w_330 : Cond.methodLink "java/lang/StringLatin1" 9 ⟨"java/lang/String", "checkIndex", "(II)V"⟩ ∈ ex_WS := ex_mem (List.mem_append_right _ (List.mem_of_getElem? (i := 330) (by decide +kernel))) (by decide +kernel)
theorem w_331 : Cond.static ⟨"java/lang/String", "checkIndex", "(II)V"⟩ ∈ ex_WS := ex_mem (List.mem_append_right _ (List.mem_of_getElem? (i := 331) (by decide +kernel))) (by decide +kernel)
theorem w_332 : Cond.code ⟨"java/lang/String", "checkIndex", "(II)V"⟩ prog_15_method_155_code 2 none ∈ ex_WS := ex_mem (List.mem_append_right _ (List.mem_of_getElem? (i := 332) (by decide +kernel))) (by decide +kernel)
theorem w_333 : Cond.fieldLink "java/lang/String" 1053 "jdk/internal/util/Preconditions" "SIOOBE_FORMATTER" "Ljava/util/function/BiFunction;" ∈ ex_WS := ex_mem (List.mem_append_right _ (List.mem_of_getElem? (i := 333) (by decide +kernel))) (by decide +kernel)
theorem w_335 : Cond.methodLink "java/lang/String" 1059 ⟨"jdk/internal/util/Preconditions", "checkIndex", "(IILjava/util/function/BiFunction;)I"⟩ ∈ ex_WS := ex_mem (List.mem_append_right _ (List.mem_of_getElem? (i := 335) (by decide +kernel))) (by decide +kernel)
theorem w_336 : Cond.static ⟨"jdk/internal/util/Preconditions", "checkIndex", "(IILjava/util/function/BiFunction;)I"⟩ ∈ ex_WS := ex_mem (List.mem_append_right _ (List.mem_of_getElem? (i := 336) (by decide +kernel))) (by decide +kernel)
theorem w_337 : Cond.code ⟨"jdk/internal/util/Preconditions", "checkIndex", "(IILjava/util/function/BiFunction;)I"⟩ prog_19_method_11_code 3 (some FieldType.int) ∈ ex_WS := ex_mem (List.mem_append_right _ (List.mem_of_getElem? (i := 337) (by decide +kernel))) (by decide +kernel)
theorem w_357 : Cond.methodLink "FrontCache$Draft" 37 ⟨"FrontCache$Control", "learn", "(II)V"⟩ ∈ ex_WS := ex_mem (List.mem_append_right _ (List.mem_of_getElem? (i := 357) (by decide +kernel))) (by decide +kernel)
theorem w_358 : Cond.instanceMethod ⟨"FrontCache$Control", "learn", "(II)V"⟩ ∈ ex_WS := ex_mem (List.mem_append_right _ (List.mem_of_getElem? (i := 358) (by decide +kernel))) (by decide +kernel)
theorem w_359 : Cond.selects "FrontCache$Control" ⟨"FrontCache$Control", "learn", "(II)V"⟩ ⟨"FrontCache$Control", "learn", "(II)V"⟩ ∈ ex_WS := ex_mem (List.mem_append_right _ (List.mem_of_getElem? (i := 359) (by decide +kernel))) (by decide +kernel)
theorem w_360 : Cond.code ⟨"FrontCache$Control", "learn", "(II)V"⟩ prog_3_method_3_code 3 none ∈ ex_WS := ex_mem (List.mem_append_right _ (List.mem_of_getElem? (i := 360) (by decide +kernel))) (by decide +kernel)
theorem w_361 : Cond.methodLink "FrontCache$Control" 35 ⟨"FrontCache$Control", "has", "(I)Z"⟩ ∈ ex_WS := ex_mem (List.mem_append_right _ (List.mem_of_getElem? (i := 361) (by decide +kernel))) (by decide +kernel)
theorem w_362 : Cond.instanceMethod ⟨"FrontCache$Control", "has", "(I)Z"⟩ ∈ ex_WS := ex_mem (List.mem_append_right _ (List.mem_of_getElem? (i := 362) (by decide +kernel))) (by decide +kernel)
theorem w_363 : Cond.selects "FrontCache$Control" ⟨"FrontCache$Control", "has", "(I)Z"⟩ ⟨"FrontCache$Control", "has", "(I)Z"⟩ ∈ ex_WS := ex_mem (List.mem_append_right _ (List.mem_of_getElem? (i := 363) (by decide +kernel))) (by decide +kernel)
theorem w_364 : Cond.code ⟨"FrontCache$Control", "has", "(I)Z"⟩ prog_3_method_4_code 2 (some FieldType.boolean) ∈ ex_WS := ex_mem (List.mem_append_right _ (List.mem_of_getElem? (i := 364) (by decide +kernel))) (by decide +kernel)
theorem w_365 : Cond.methodLink "FrontCache" 83 ⟨"FrontCache", "renew", "(IIZLFrontCache$Control;)I"⟩ ∈ ex_WS := ex_mem (List.mem_append_right _ (List.mem_of_getElem? (i := 365) (by decide +kernel))) (by decide +kernel)
theorem w_367 : Cond.instanceMethod ⟨"FrontCache", "renew", "(IIZLFrontCache$Control;)I"⟩ ∈ ex_WS := ex_mem (List.mem_append_right _ (List.mem_of_getElem? (i := 367) (by decide +kernel))) (by decide +kernel)
theorem w_368 : Cond.code ⟨"FrontCache", "renew", "(IIZLFrontCache$Control;)I"⟩ prog_1_method_25_code 5 (some FieldType.int) ∈ ex_WS := ex_mem (List.mem_append_right _ (List.mem_of_getElem? (i := 368) (by decide +kernel))) (by decide +kernel)
theorem w_370 : Cond.methodLink "FrontCacheLaw" 31 ⟨"FrontCache", "withdraw", "(I)Z"⟩ ∈ ex_WS := ex_mem (List.mem_append_right _ (List.mem_of_getElem? (i := 370) (by decide +kernel))) (by decide +kernel)
theorem w_371 : Cond.instanceMethod ⟨"FrontCache", "withdraw", "(I)Z"⟩ ∈ ex_WS := ex_mem (List.mem_append_right _ (List.mem_of_getElem? (i := 371) (by decide +kernel))) (by decide +kernel)
theorem w_372 : Cond.selects "FrontCache" ⟨"FrontCache", "withdraw", "(I)Z"⟩ ⟨"FrontCache", "withdraw", "(I)Z"⟩ ∈ ex_WS := ex_mem (List.mem_append_right _ (List.mem_of_getElem? (i := 372) (by decide +kernel))) (by decide +kernel)
theorem w_373 : Cond.code ⟨"FrontCache", "withdraw", "(I)Z"⟩ prog_1_method_4_code 2 (some FieldType.boolean) ∈ ex_WS := ex_mem (List.mem_append_right _ (List.mem_of_getElem? (i := 373) (by decide +kernel))) (by decide +kernel)
theorem w_374 : Cond.methodLink "FrontCache" 87 ⟨"FrontCache$Resource", "isAbsent", "()Z"⟩ ∈ ex_WS := ex_mem (List.mem_append_right _ (List.mem_of_getElem? (i := 374) (by decide +kernel))) (by decide +kernel)
theorem w_375 : Cond.instanceMethod ⟨"FrontCache$Resource", "isAbsent", "()Z"⟩ ∈ ex_WS := ex_mem (List.mem_append_right _ (List.mem_of_getElem? (i := 375) (by decide +kernel))) (by decide +kernel)
theorem w_376 : Cond.selects "FrontCache$Resource" ⟨"FrontCache$Resource", "isAbsent", "()Z"⟩ ⟨"FrontCache$Resource", "isAbsent", "()Z"⟩ ∈ ex_WS := ex_mem (List.mem_append_right _ (List.mem_of_getElem? (i := 376) (by decide +kernel))) (by decide +kernel)
theorem w_377 : Cond.code ⟨"FrontCache$Resource", "isAbsent", "()Z"⟩ prog_9_method_2_code 1 (some FieldType.boolean) ∈ ex_WS := ex_mem (List.mem_append_right _ (List.mem_of_getElem? (i := 377) (by decide +kernel))) (by decide +kernel)
theorem w_378 : Cond.methodLink "FrontCacheLaw" 36 ⟨"FrontCache", "get", "(III)I"⟩ ∈ ex_WS := ex_mem (List.mem_append_right _ (List.mem_of_getElem? (i := 378) (by decide +kernel))) (by decide +kernel)
theorem w_379 : Cond.instanceMethod ⟨"FrontCache", "get", "(III)I"⟩ ∈ ex_WS := ex_mem (List.mem_append_right _ (List.mem_of_getElem? (i := 379) (by decide +kernel))) (by decide +kernel)
theorem w_380 : Cond.selects "FrontCache" ⟨"FrontCache", "get", "(III)I"⟩ ⟨"FrontCache", "get", "(III)I"⟩ ∈ ex_WS := ex_mem (List.mem_append_right _ (List.mem_of_getElem? (i := 380) (by decide +kernel))) (by decide +kernel)
theorem w_381 : Cond.code ⟨"FrontCache", "get", "(III)I"⟩ prog_1_method_5_code 5 (some FieldType.int) ∈ ex_WS := ex_mem (List.mem_append_right _ (List.mem_of_getElem? (i := 381) (by decide +kernel))) (by decide +kernel)
theorem w_382 : Cond.instantiable "FrontCache$Request" 12 ∈ ex_WS := ex_mem (List.mem_append_right _ (List.mem_of_getElem? (i := 382) (by decide +kernel))) (by decide +kernel)
theorem w_383 : Cond.methodLink "FrontCache" 91 ⟨"FrontCache", "nextRequest", "()I"⟩ ∈ ex_WS := ex_mem (List.mem_append_right _ (List.mem_of_getElem? (i := 383) (by decide +kernel))) (by decide +kernel)
theorem w_385 : Cond.instanceMethod ⟨"FrontCache", "nextRequest", "()I"⟩ ∈ ex_WS := ex_mem (List.mem_append_right _ (List.mem_of_getElem? (i := 385) (by decide +kernel))) (by decide +kernel)
theorem w_386 : Cond.code ⟨"FrontCache", "nextRequest", "()I"⟩ prog_1_method_26_code 1 (some FieldType.int) ∈ ex_WS := ex_mem (List.mem_append_right _ (List.mem_of_getElem? (i := 386) (by decide +kernel))) (by decide +kernel)
theorem w_387 : Cond.methodLink "FrontCache" 95 ⟨"FrontCache$Request", "<init>", "(IIIILFrontCache$Control;)V"⟩ ∈ ex_WS := ex_mem (List.mem_append_right _ (List.mem_of_getElem? (i := 387) (by decide +kernel))) (by decide +kernel)
theorem w_388 : Cond.instanceMethod ⟨"FrontCache$Request", "<init>", "(IIIILFrontCache$Control;)V"⟩ ∈ ex_WS := ex_mem (List.mem_append_right _ (List.mem_of_getElem? (i := 388) (by decide +kernel))) (by decide +kernel)
theorem w_389 : Cond.code ⟨"FrontCache$Request", "<init>", "(IIIILFrontCache$Control;)V"⟩ prog_8_method_1_code 6 none ∈ ex_WS := ex_mem (List.mem_append_right _ (List.mem_of_getElem? (i := 389) (by decide +kernel))) (by decide +kernel)
theorem w_390 : Cond.methodLink "FrontCache$Request" 3 ⟨"java/lang/Object", "<init>", "()V"⟩ ∈ ex_WS := ex_mem (List.mem_append_right _ (List.mem_of_getElem? (i := 390) (by decide +kernel))) (by decide +kernel)
theorem w_391 : Cond.fieldLink "FrontCache$Request" 9 "FrontCache$Request" "number" "I" ∈ ex_WS := ex_mem (List.mem_append_right _ (List.mem_of_getElem? (i := 391) (by decide +kernel))) (by decide +kernel)
theorem w_392 : Cond.fieldLink "FrontCache" 105 "FrontCache$Request" "number" "I" ∈ ex_WS := ex_mem (List.mem_append_right _ (List.mem_of_getElem? (i := 392) (by decide +kernel))) (by decide +kernel)
theorem w_393 : Cond.fieldLink "FrontCache$Request" 15 "FrontCache$Request" "kind" "I" ∈ ex_WS := ex_mem (List.mem_append_right _ (List.mem_of_getElem? (i := 393) (by decide +kernel))) (by decide +kernel)
theorem w_394 : Cond.fieldLink "FrontCache$Message" 20 "FrontCache$Request" "kind" "I" ∈ ex_WS := ex_mem (List.mem_append_right _ (List.mem_of_getElem? (i := 394) (by decide +kernel))) (by decide +kernel)
theorem w_395 : Cond.fieldLink "FrontCache" 288 "FrontCache$Request" "kind" "I" ∈ ex_WS := ex_mem (List.mem_append_right _ (List.mem_of_getElem? (i := 395) (by decide +kernel))) (by decide +kernel)
theorem w_396 : Cond.fieldLink "FrontCache$Request" 18 "FrontCache$Request" "path" "I" ∈ ex_WS := ex_mem (List.mem_append_right _ (List.mem_of_getElem? (i := 396) (by decide +kernel))) (by decide +kernel)
theorem w_397 : Cond.fieldLink "FrontCache" 240 "FrontCache$Request" "path" "I" ∈ ex_WS := ex_mem (List.mem_append_right _ (List.mem_of_getElem? (i := 397) (by decide +kernel))) (by decide +kernel)
theorem w_398 : Cond.fieldLink "FrontCache$Request" 21 "FrontCache$Request" "variant" "I" ∈ ex_WS := ex_mem (List.mem_append_right _ (List.mem_of_getElem? (i := 398) (by decide +kernel))) (by decide +kernel)
theorem w_399 : Cond.fieldLink "FrontCache" 245 "FrontCache$Request" "variant" "I" ∈ ex_WS := ex_mem (List.mem_append_right _ (List.mem_of_getElem? (i := 399) (by decide +kernel))) (by decide +kernel)
theorem w_400 : Cond.fieldLink "FrontCache$Request" 24 "FrontCache$Request" "size" "I" ∈ ex_WS := ex_mem (List.mem_append_right _ (List.mem_of_getElem? (i := 400) (by decide +kernel))) (by decide +kernel)
theorem w_401 : Cond.fieldLink "FrontCache" 291 "FrontCache$Request" "size" "I" ∈ ex_WS := ex_mem (List.mem_append_right _ (List.mem_of_getElem? (i := 401) (by decide +kernel))) (by decide +kernel)
theorem w_402 : Cond.fieldLink "FrontCache$Request" 27 "FrontCache$Request" "knownTag" "I" ∈ ex_WS := ex_mem (List.mem_append_right _ (List.mem_of_getElem? (i := 402) (by decide +kernel))) (by decide +kernel)
theorem w_403 : Cond.fieldLink "FrontCache$Request" 30 "FrontCache$Request" "control" "LFrontCache$Control;" ∈ ex_WS := ex_mem (List.mem_append_right _ (List.mem_of_getElem? (i := 403) (by decide +kernel))) (by decide +kernel)
theorem w_404 : Cond.fieldLink "FrontCache" 250 "FrontCache$Request" "control" "LFrontCache$Control;" ∈ ex_WS := ex_mem (List.mem_append_right _ (List.mem_of_getElem? (i := 404) (by decide +kernel))) (by decide +kernel)
theorem w_405 : Cond.fieldLink "FrontCache$Message" 28 "FrontCache$Request" "toConfirm" "LFrontCache$Entry;" ∈ ex_WS := ex_mem (List.mem_append_right _ (List.mem_of_getElem? (i := 405) (by decide +kernel))) (by decide +kernel)
theorem w_406 : Cond.fieldLink "FrontCache" 266 "FrontCache$Request" "toConfirm" "LFrontCache$Entry;" ∈ ex_WS := ex_mem (List.mem_append_right _ (List.mem_of_getElem? (i := 406) (by decide +kernel))) (by decide +kernel)
theorem w_407 : Cond.fieldLink "FrontCache$Connection" 34 "FrontCache$Request" "status" "I" ∈ ex_WS := ex_mem (List.mem_append_right _ (List.mem_of_getElem? (i := 407) (by decide +kernel))) (by decide +kernel)
theorem w_408 : Cond.fieldLink "FrontCache$Request" 37 "FrontCache$Request" "status" "I" ∈ ex_WS := ex_mem (List.mem_append_right _ (List.mem_of_getElem? (i := 408) (by decide +kernel))) (by decide +kernel)
theorem w_409 : Cond.fieldLink "FrontCache" 157 "FrontCache$Request" "status" "I" ∈ ex_WS := ex_mem (List.mem_append_right _ (List.mem_of_getElem? (i := 409) (by decide +kernel))) (by decide +kernel)
theorem w_410 : Cond.fieldLink "FrontCache$Request" 40 "FrontCache$Request" "answerTag" "I" ∈ ex_WS := ex_mem (List.mem_append_right _ (List.mem_of_getElem? (i := 410) (by decide +kernel))) (by decide +kernel)
theorem w_411 : Cond.fieldLink "FrontCache" 160 "FrontCache$Request" "answerTag" "I" ∈ ex_WS := ex_mem (List.mem_append_right _ (List.mem_of_getElem? (i := 411) (by decide +kernel))) (by decide +kernel)
theorem w_412 : Cond.fieldLink "FrontCache$Request" 43 "FrontCache$Request" "answerAge" "I" ∈ ex_WS := ex_mem (List.mem_append_right _ (List.mem_of_getElem? (i := 412) (by decide +kernel))) (by decide +kernel)
theorem w_413 : Cond.fieldLink "FrontCache" 163 "FrontCache$Request" "answerAge" "I" ∈ ex_WS := ex_mem (List.mem_append_right _ (List.mem_of_getElem? (i := 413) (by decide +kernel))) (by decide +kernel)
theorem w_414 : Cond.fieldLink "FrontCache$Request" 46 "FrontCache$Request" "way" "I" ∈ ex_WS := ex_mem (List.mem_append_right _ (List.mem_of_getElem? (i := 414) (by decide +kernel))) (by decide +kernel)
theorem w_415 : Cond.fieldLink "FrontCache" 166 "FrontCache$Request" "way" "I" ∈ ex_WS := ex_mem (List.mem_append_right _ (List.mem_of_getElem? (i := 415) (by decide +kernel))) (by decide +kernel)
theorem w_441 : Cond.methodLink "FrontCache" 98 ⟨"FrontCache", "keepRequest", "(LFrontCache$Request;)V"⟩ ∈ ex_WS := ex_mem (List.mem_append_right _ (List.mem_of_getElem? (i := 441) (by decide +kernel))) (by decide +kernel)
theorem w_443 : Cond.instanceMethod ⟨"FrontCache", "keepRequest", "(LFrontCache$Request;)V"⟩ ∈ ex_WS := ex_mem (List.mem_append_right _ (List.mem_of_getElem? (i := 443) (by decide +kernel))) (by decide +kernel)
theorem w_444 : Cond.code ⟨"FrontCache", "keepRequest", "(LFrontCache$Request;)V"⟩ prog_1_method_28_code 2 none ∈ ex_WS := ex_mem (List.mem_append_right _ (List.mem_of_getElem? (i := 444) (by decide +kernel))) (by decide +kernel)
theorem w_445 : Cond.methodLink "FrontCache" 153 ⟨"FrontCache", "slotOf", "(I)I"⟩ ∈ ex_WS := ex_mem (List.mem_append_right _ (List.mem_of_getElem? (i := 445) (by decide +kernel))) (by decide +kernel)
theorem w_446 : Cond.static ⟨"FrontCache", "slotOf", "(I)I"⟩ ∈ ex_WS := ex_mem (List.mem_append_right _ (List.mem_of_getElem? (i := 446) (by decide +kernel))) (by decide +kernel)
theorem w_447 : Cond.code ⟨"FrontCache", "slotOf", "(I)I"⟩ prog_1_method_27_code 1 (some FieldType.int) ∈ ex_WS := ex_mem (List.mem_append_right _ (List.mem_of_getElem? (i := 447) (by decide +kernel))) (by decide +kernel)
theorem w_448 : Cond.methodLink "FrontCache" 228 ⟨"java/lang/Math", "floorMod", "(II)I"⟩ ∈ ex_WS := ex_mem (List.mem_append_right _ (List.mem_of_getElem? (i := 448) (by decide +kernel))) (by decide +kernel)
theorem w_449 : Cond.static ⟨"java/lang/Math", "floorMod", "(II)I"⟩ ∈ ex_WS := ex_mem (List.mem_append_right _ (List.mem_of_getElem? (i := 449) (by decide +kernel))) (by decide +kernel)
theorem w_450 : Cond.code ⟨"java/lang/Math", "floorMod", "(II)I"⟩ prog_14_method_50_code 3 (some FieldType.int) ∈ ex_WS := ex_mem (List.mem_append_right _ (List.mem_of_getElem? (i := 450) (by decide +kernel))) (by decide +kernel)
theorem w_451 : Cond.methodLink "FrontCache" 102 ⟨"FrontCache", "dealWithGet", "(LFrontCache$Request;)V"⟩ ∈ ex_WS := ex_mem (List.mem_append_right _ (List.mem_of_getElem? (i := 451) (by decide +kernel))) (by decide +kernel)
theorem w_453 : Cond.instanceMethod ⟨"FrontCache", "dealWithGet", "(LFrontCache$Request;)V"⟩ ∈ ex_WS := ex_mem (List.mem_append_right _ (List.mem_of_getElem? (i := 453) (by decide +kernel))) (by decide +kernel)
theorem w_454 : Cond.code ⟨"FrontCache", "dealWithGet", "(LFrontCache$Request;)V"⟩ prog_1_method_31_code 3 none ∈ ex_WS := ex_mem (List.mem_append_right _ (List.mem_of_getElem? (i := 454) (by decide +kernel))) (by decide +kernel)
theorem w_455 : Cond.methodLink "FrontCache" 246 ⟨"FrontCache$Store", "find", "(II)LFrontCache$Entry;"⟩ ∈ ex_WS := ex_mem (List.mem_append_right _ (List.mem_of_getElem? (i := 455) (by decide +kernel))) (by decide +kernel)
theorem w_456 : Cond.instanceMethod ⟨"FrontCache$Store", "find", "(II)LFrontCache$Entry;"⟩ ∈ ex_WS := ex_mem (List.mem_append_right _ (List.mem_of_getElem? (i := 456) (by decide +kernel))) (by decide +kernel)
theorem w_457 : Cond.selects "FrontCache$Store" ⟨"FrontCache$Store", "find", "(II)LFrontCache$Entry;"⟩ ⟨"FrontCache$Store", "find", "(II)LFrontCache$Entry;"⟩ ∈ ex_WS := ex_mem (List.mem_append_right _ (List.mem_of_getElem? (i := 457) (by decide +kernel))) (by decide +kernel)
theorem w_458 : Cond.code ⟨"FrontCache$Store", "find", "(II)LFrontCache$Entry;"⟩ prog_10_method_3_code 4 (some (FieldType.object "FrontCache$Entry")) ∈ ex_WS := ex_mem (List.mem_append_right _ (List.mem_of_getElem? (i := 458) (by decide +kernel))) (by decide +kernel)
theorem w_459 : Cond.methodLink "FrontCache$Store" 24 ⟨"FrontCache$Entry", "matches", "(II)Z"⟩ ∈ ex_WS := ex_mem (List.mem_append_right _ (List.mem_of_getElem? (i := 459) (by decide +kernel))) (by decide +kernel)
theorem w_460 : Cond.instanceMethod ⟨"FrontCache$Entry", "matches", "(II)Z"⟩ ∈ ex_WS := ex_mem (List.mem_append_right _ (List.mem_of_getElem? (i := 460) (by decide +kernel))) (by decide +kernel)
theorem w_461 : Cond.selects "FrontCache$Entry" ⟨"FrontCache$Entry", "matches", "(II)Z"⟩ ⟨"FrontCache$Entry", "matches", "(II)Z"⟩ ∈ ex_WS := ex_mem (List.mem_append_right _ (List.mem_of_getElem? (i := 461) (by decide +kernel))) (by decide +kernel)
theorem w_462 : Cond.code ⟨"FrontCache$Entry", "matches", "(II)Z"⟩ prog_5_method_2_code 3 (some FieldType.boolean) ∈ ex_WS := ex_mem (List.mem_append_right _ (List.mem_of_getElem? (i := 462) (by decide +kernel))) (by decide +kernel)
theorem w_463 : Cond.methodLink "FrontCache" 251 ⟨"FrontCache$Entry", "serves", "(LFrontCache$Control;I)Z"⟩ ∈ ex_WS := ex_mem (List.mem_append_right _ (List.mem_of_getElem? (i := 463) (by decide +kernel))) (by decide +kernel)
theorem w_464 : Cond.instanceMethod ⟨"FrontCache$Entry", "serves", "(LFrontCache$Control;I)Z"⟩ ∈ ex_WS := ex_mem (List.mem_append_right _ (List.mem_of_getElem? (i := 464) (by decide +kernel))) (by decide +kernel)
theorem w_465 : Cond.selects "FrontCache$Entry" ⟨"FrontCache$Entry", "serves", "(LFrontCache$Control;I)Z"⟩ ⟨"FrontCache$Entry", "serves", "(LFrontCache$Control;I)Z"⟩ ∈ ex_WS := ex_mem (List.mem_append_right _ (List.mem_of_getElem? (i := 465) (by decide +kernel))) (by decide +kernel)
theorem w_466 : Cond.code ⟨"FrontCache$Entry", "serves", "(LFrontCache$Control;I)Z"⟩ prog_5_method_4_code 5 (some FieldType.boolean) ∈ ex_WS := ex_mem (List.mem_append_right _ (List.mem_of_getElem? (i := 466) (by decide +kernel))) (by decide +kernel)
theorem w_467 : Cond.methodLink "FrontCache$Entry" 41 ⟨"FrontCache$Entry", "age", "(I)I"⟩ ∈ ex_WS := ex_mem (List.mem_append_right _ (List.mem_of_getElem? (i := 467) (by decide +kernel))) (by decide +kernel)
theorem w_468 : Cond.instanceMethod ⟨"FrontCache$Entry", "age", "(I)I"⟩ ∈ ex_WS := ex_mem (List.mem_append_right _ (List.mem_of_getElem? (i := 468) (by decide +kernel))) (by decide +kernel)
theorem w_469 : Cond.selects "FrontCache$Entry" ⟨"FrontCache$Entry", "age", "(I)I"⟩ ⟨"FrontCache$Entry", "age", "(I)I"⟩ ∈ ex_WS := ex_mem (List.mem_append_right _ (List.mem_of_getElem? (i := 469) (by decide +kernel))) (by decide +kernel)
theorem w_470 : Cond.code ⟨"FrontCache$Entry", "age", "(I)I"⟩ prog_5_method_3_code 2 (some FieldType.int) ∈ ex_WS := ex_mem (List.mem_append_right _ (List.mem_of_getElem? (i := 470) (by decide +kernel))) (by decide +kernel)
theorem w_471 : Cond.methodLink "FrontCache$Entry" 44 ⟨"FrontCache$Control", "lifetime", "()I"⟩ ∈ ex_WS := ex_mem (List.mem_append_right _ (List.mem_of_getElem? (i := 471) (by decide +kernel))) (by decide +kernel)
theorem w_472 : Cond.instanceMethod ⟨"FrontCache$Control", "lifetime", "()I"⟩ ∈ ex_WS := ex_mem (List.mem_append_right _ (List.mem_of_getElem? (i := 472) (by decide +kernel))) (by decide +kernel)
theorem w_473 : Cond.selects "FrontCache$Control" ⟨"FrontCache$Control", "lifetime", "()I"⟩ ⟨"FrontCache$Control", "lifetime", "()I"⟩ ∈ ex_WS := ex_mem (List.mem_append_right _ (List.mem_of_getElem? (i := 473) (by decide +kernel))) (by decide +kernel)
theorem w_474 : Cond.code ⟨"FrontCache$Control", "lifetime", "()I"⟩ prog_3_method_6_code 1 (some FieldType.int) ∈ ex_WS := ex_mem (List.mem_append_right _ (List.mem_of_getElem? (i := 474) (by decide +kernel))) (by decide +kernel)
theorem w_475 : Cond.methodLink "FrontCache$Control" 39 ⟨"FrontCache$Control", "number", "(I)I"⟩ ∈ ex_WS := ex_mem (List.mem_append_right _ (List.mem_of_getElem? (i := 475) (by decide +kernel))) (by decide +kernel)
theorem w_476 : Cond.instanceMethod ⟨"FrontCache$Control", "number", "(I)I"⟩ ∈ ex_WS := ex_mem (List.mem_append_right _ (List.mem_of_getElem? (i := 476) (by decide +kernel))) (by decide +kernel)
theorem w_477 : Cond.selects "FrontCache$Control" ⟨"FrontCache$Control", "number", "(I)I"⟩ ⟨"FrontCache$Control", "number", "(I)I"⟩ ∈ ex_WS := ex_mem (List.mem_append_right _ (List.mem_of_getElem? (i := 477) (by decide +kernel))) (by decide +kernel)
theorem w_478 : Cond.code ⟨"FrontCache$Control", "number", "(I)I"⟩ prog_3_method_5_code 2 (some FieldType.int) ∈ ex_WS := ex_mem (List.mem_append_right _ (List.mem_of_getElem? (i := 478) (by decide +kernel))) (by decide +kernel)
theorem w_479 : Cond.methodLink "FrontCache$Entry" 50 ⟨"FrontCache$Control", "has", "(I)Z"⟩ ∈ ex_WS := ex_mem (List.mem_append_right _ (List.mem_of_getElem? (i := 479) (by decide +kernel))) (by decide +kernel)
theorem w_480 : Cond.methodLink "FrontCache$Entry" 54 ⟨"FrontCache$Control", "hasLifetime", "()Z"⟩ ∈ ex_WS := ex_mem (List.mem_append_right _ (List.mem_of_getElem? (i := 480) (by decide +kernel))) (by decide +kernel)
theorem w_481 : Cond.instanceMethod ⟨"FrontCache$Control", "hasLifetime", "()Z"⟩ ∈ ex_WS := ex_mem (List.mem_append_right _ (List.mem_of_getElem? (i := 481) (by decide +kernel))) (by decide +kernel)
theorem w_482 : Cond.selects "FrontCache$Control" ⟨"FrontCache$Control", "hasLifetime", "()Z"⟩ ⟨"FrontCache$Control", "hasLifetime", "()Z"⟩ ∈ ex_WS := ex_mem (List.mem_append_right _ (List.mem_of_getElem? (i := 482) (by decide +kernel))) (by decide +kernel)
theorem w_483 : Cond.code ⟨"FrontCache$Control", "hasLifetime", "()Z"⟩ prog_3_method_7_code 1 (some FieldType.boolean) ∈ ex_WS := ex_mem (List.mem_append_right _ (List.mem_of_getElem? (i := 483) (by decide +kernel))) (by decide +kernel)
theorem w_484 : Cond.methodLink "FrontCache$Control" 43 ⟨"FrontCache$Control", "lifetime", "()I"⟩ ∈ ex_WS := ex_mem (List.mem_append_right _ (List.mem_of_getElem? (i := 484) (by decide +kernel))) (by decide +kernel)
theorem w_485 : Cond.methodLink "FrontCache$Entry" 58 ⟨"FrontCache$Control", "number", "(I)I"⟩ ∈ ex_WS := ex_mem (List.mem_append_right _ (List.mem_of_getElem? (i := 485) (by decide +kernel))) (by decide +kernel)
theorem w_486 : Cond.methodLink "FrontCache" 255 ⟨"FrontCache$Store", "makeLatest", "(LFrontCache$Entry;)V"⟩ ∈ ex_WS := ex_mem (List.mem_append_right _ (List.mem_of_getElem? (i := 486) (by decide +kernel))) (by decide +kernel)
theorem w_487 : Cond.instanceMethod ⟨"FrontCache$Store", "makeLatest", "(LFrontCache$Entry;)V"⟩ ∈ ex_WS := ex_mem (List.mem_append_right _ (List.mem_of_getElem? (i := 487) (by decide +kernel))) (by decide +kernel)
theorem w_488 : Cond.selects "FrontCache$Store" ⟨"FrontCache$Store", "makeLatest", "(LFrontCache$Entry;)V"⟩ ⟨"FrontCache$Store", "makeLatest", "(LFrontCache$Entry;)V"⟩ ∈ ex_WS := ex_mem (List.mem_append_right _ (List.mem_of_getElem? (i := 488) (by decide +kernel))) (by decide +kernel)
theorem w_489 : Cond.code ⟨"FrontCache$Store", "makeLatest", "(LFrontCache$Entry;)V"⟩ prog_10_method_5_code 3 none ∈ ex_WS := ex_mem (List.mem_append_right _ (List.mem_of_getElem? (i := 489) (by decide +kernel))) (by decide +kernel)
theorem w_490 : Cond.methodLink "FrontCache$Store" 65 ⟨"FrontCache$Store", "placeOf", "(LFrontCache$Entry;)I"⟩ ∈ ex_WS := ex_mem (List.mem_append_right _ (List.mem_of_getElem? (i := 490) (by decide +kernel))) (by decide +kernel)
theorem w_492 : Cond.instanceMethod ⟨"FrontCache$Store", "placeOf", "(LFrontCache$Entry;)I"⟩ ∈ ex_WS := ex_mem (List.mem_append_right _ (List.mem_of_getElem? (i := 492) (by decide +kernel))) (by decide +kernel)
theorem w_493 : Cond.code ⟨"FrontCache$Store", "placeOf", "(LFrontCache$Entry;)I"⟩ prog_10_method_9_code 3 (some FieldType.int) ∈ ex_WS := ex_mem (List.mem_append_right _ (List.mem_of_getElem? (i := 493) (by decide +kernel))) (by decide +kernel)
theorem w_494 : Cond.methodLink "FrontCache$Store" 58 ⟨"FrontCache$Store", "removeAt", "(I)V"⟩ ∈ ex_WS := ex_mem (List.mem_append_right _ (List.mem_of_getElem? (i := 494) (by decide +kernel))) (by decide +kernel)
theorem w_496 : Cond.instanceMethod ⟨"FrontCache$Store", "removeAt", "(I)V"⟩ ∈ ex_WS := ex_mem (List.mem_append_right _ (List.mem_of_getElem? (i := 496) (by decide +kernel))) (by decide +kernel)
theorem w_497 : Cond.code ⟨"FrontCache$Store", "removeAt", "(I)V"⟩ prog_10_method_11_code 3 none ∈ ex_WS := ex_mem (List.mem_append_right _ (List.mem_of_getElem? (i := 497) (by decide +kernel))) (by decide +kernel)
theorem w_498 : Cond.methodLink "FrontCache$Store" 61 ⟨"FrontCache$Store", "append", "(LFrontCache$Entry;)V"⟩ ∈ ex_WS := ex_mem (List.mem_append_right _ (List.mem_of_getElem? (i := 498) (by decide +kernel))) (by decide +kernel)
theorem w_500 : Cond.instanceMethod ⟨"FrontCache$Store", "append", "(LFrontCache$Entry;)V"⟩ ∈ ex_WS := ex_mem (List.mem_append_right _ (List.mem_of_getElem? (i := 500) (by decide +kernel))) (by decide +kernel)
theorem w_501 : Cond.code ⟨"FrontCache$Store", "append", "(LFrontCache$Entry;)V"⟩ prog_10_method_10_code 2 none ∈ ex_WS := ex_mem (List.mem_append_right _ (List.mem_of_getElem? (i := 501) (by decide +kernel))) (by decide +kernel)
theorem w_502 : Cond.methodLink "FrontCache" 193 ⟨"FrontCache$Entry", "age", "(I)I"⟩ ∈ ex_WS := ex_mem (List.mem_append_right _ (List.mem_of_getElem? (i := 502) (by decide +kernel))) (by decide +kernel)
theorem w_503 : Cond.methodLink "FrontCache" 259 ⟨"FrontCache$Request", "answerOk", "(III)V"⟩ ∈ ex_WS := ex_mem (List.mem_append_right _ (List.mem_of_getElem? (i := 503) (by decide +kernel))) (by decide +kernel)
theorem w_504 : Cond.instanceMethod ⟨"FrontCache$Request", "answerOk", "(III)V"⟩ ∈ ex_WS := ex_mem (List.mem_append_right _ (List.mem_of_getElem? (i := 504) (by decide +kernel))) (by decide +kernel)
theorem w_505 : Cond.selects "FrontCache$Request" ⟨"FrontCache$Request", "answerOk", "(III)V"⟩ ⟨"FrontCache$Request", "answerOk", "(III)V"⟩ ∈ ex_WS := ex_mem (List.mem_append_right _ (List.mem_of_getElem? (i := 505) (by decide +kernel))) (by decide +kernel)
theorem w_506 : Cond.code ⟨"FrontCache$Request", "answerOk", "(III)V"⟩ prog_8_method_3_code 4 none ∈ ex_WS := ex_mem (List.mem_append_right _ (List.mem_of_getElem? (i := 506) (by decide +kernel))) (by decide +kernel)
theorem w_507 : Cond.methodLink "FrontCache" 263 ⟨"FrontCache$Control", "has", "(I)Z"⟩ ∈ ex_WS := ex_mem (List.mem_append_right _ (List.mem_of_getElem? (i := 507) (by decide +kernel))) (by decide +kernel)
theorem w_508 : Cond.methodLink "FrontCache" 237 ⟨"FrontCache", "passOn", "(LFrontCache$Request;)V"⟩ ∈ ex_WS := ex_mem (List.mem_append_right _ (List.mem_of_getElem? (i := 508) (by decide +kernel))) (by decide +kernel)
theorem w_510 : Cond.instanceMethod ⟨"FrontCache", "passOn", "(LFrontCache$Request;)V"⟩ ∈ ex_WS := ex_mem (List.mem_append_right _ (List.mem_of_getElem? (i := 510) (by decide +kernel))) (by decide +kernel)
theorem w_511 : Cond.code ⟨"FrontCache", "passOn", "(LFrontCache$Request;)V"⟩ prog_1_method_30_code 2 none ∈ ex_WS := ex_mem (List.mem_append_right _ (List.mem_of_getElem? (i := 511) (by decide +kernel))) (by decide +kernel)
theorem w_512 : Cond.methodLink "FrontCache" 215 ⟨"FrontCache", "ownerOf", "(I)I"⟩ ∈ ex_WS := ex_mem (List.mem_append_right _ (List.mem_of_getElem? (i := 512) (by decide +kernel))) (by decide +kernel)
theorem w_513 : Cond.static ⟨"FrontCache", "ownerOf", "(I)I"⟩ ∈ ex_WS := ex_mem (List.mem_append_right _ (List.mem_of_getElem? (i := 513) (by decide +kernel))) (by decide +kernel)
theorem w_514 : Cond.code ⟨"FrontCache", "ownerOf", "(I)I"⟩ prog_1_method_24_code 5 (some FieldType.int) ∈ ex_WS := ex_mem (List.mem_append_right _ (List.mem_of_getElem? (i := 514) (by decide +kernel))) (by decide +kernel)
theorem w_515 : Cond.methodLink "FrontCache" 241 y_Con_admit ∈ ex_WS := ex_mem (List.mem_append_right _ (List.mem_of_getElem? (i := 515) (by decide +kernel))) (by decide +kernel)
theorem w_516 : Cond.instanceMethod y_Con_admit ∈ ex_WS := ex_mem (List.mem_append_right _ (List.mem_of_getElem? (i := 516) (by decide +kernel))) (by decide +kernel)
theorem w_517 : Cond.selects "FrontCache$Connection" y_Con_admit y_Con_admit ∈ ex_WS := ex_mem (List.mem_append_right _ (List.mem_of_getElem? (i := 517) (by decide +kernel))) (by decide +kernel)
theorem w_518 : Cond.code y_Con_admit prog_2_method_2_code 4 none ∈ ex_WS := ex_mem (List.mem_append_right _ (List.mem_of_getElem? (i := 518) (by decide +kernel))) (by decide +kernel)
theorem w_519 : Cond.methodLink "FrontCache$Connection" 40 ⟨"FrontCache$Connection", "beginNext", "(ILFrontCache$UnderWay;)V"⟩ ∈ ex_WS := ex_mem (List.mem_append_right _ (List.mem_of_getElem? (i := 519) (by decide +kernel))) (by decide +kernel)
theorem w_520 : Cond.instanceMethod ⟨"FrontCache$Connection", "beginNext", "(ILFrontCache$UnderWay;)V"⟩ ∈ ex_WS := ex_mem (List.mem_append_right _ (List.mem_of_getElem? (i := 520) (by decide +kernel))) (by decide +kernel)
theorem w_521 : Cond.selects "FrontCache$Connection" ⟨"FrontCache$Connection", "beginNext", "(ILFrontCache$UnderWay;)V"⟩ ⟨"FrontCache$Connection", "beginNext", "(ILFrontCache$UnderWay;)V"⟩ ∈ ex_WS := ex_mem (List.mem_append_right _ (List.mem_of_getElem? (i := 521) (by decide +kernel))) (by decide +kernel)
theorem w_522 : Cond.code ⟨"FrontCache$Connection", "beginNext", "(ILFrontCache$UnderWay;)V"⟩ prog_2_method_3_code 3 none ∈ ex_WS := ex_mem (List.mem_append_right _ (List.mem_of_getElem? (i := 522) (by decide +kernel))) (by decide +kernel)
theorem w_523 : Cond.methodLink "FrontCache$Connection" 53 ⟨"FrontCache$UnderWay", "send", "(LFrontCache$Message;)Z"⟩ ∈ ex_WS := ex_mem (List.mem_append_right _ (List.mem_of_getElem? (i := 523) (by decide +kernel))) (by decide +kernel)
theorem w_524 : Cond.instanceMethod ⟨"FrontCache$UnderWay", "send", "(LFrontCache$Message;)Z"⟩ ∈ ex_WS := ex_mem (List.mem_append_right _ (List.mem_of_getElem? (i := 524) (by decide +kernel))) (by decide +kernel)
theorem w_525 : Cond.selects "FrontCache$UnderWay" ⟨"FrontCache$UnderWay", "send", "(LFrontCache$Message;)Z"⟩ ⟨"FrontCache$UnderWay", "send", "(LFrontCache$Message;)Z"⟩ ∈ ex_WS := ex_mem (List.mem_append_right _ (List.mem_of_getElem? (i := 525) (by decide +kernel))) (by decide +kernel)
theorem w_526 : Cond.code ⟨"FrontCache$UnderWay", "send", "(LFrontCache$Message;)Z"⟩ prog_11_method_3_code 2 (some FieldType.boolean) ∈ ex_WS := ex_mem (List.mem_append_right _ (List.mem_of_getElem? (i := 526) (by decide +kernel))) (by decide +kernel)
theorem w_527 : Cond.methodLink "FrontCacheLaw" 41 ⟨"FrontCache", "put", "(II)I"⟩ ∈ ex_WS := ex_mem (List.mem_append_right _ (List.mem_of_getElem? (i := 527) (by decide +kernel))) (by decide +kernel)
theorem w_528 : Cond.instanceMethod ⟨"FrontCache", "put", "(II)I"⟩ ∈ ex_WS := ex_mem (List.mem_append_right _ (List.mem_of_getElem? (i := 528) (by decide +kernel))) (by decide +kernel)
theorem w_529 : Cond.selects "FrontCache" ⟨"FrontCache", "put", "(II)I"⟩ ⟨"FrontCache", "put", "(II)I"⟩ ∈ ex_WS := ex_mem (List.mem_append_right _ (List.mem_of_getElem? (i := 529) (by decide +kernel))) (by decide +kernel)
theorem w_530 : Cond.code ⟨"FrontCache", "put", "(II)I"⟩ prog_1_method_6_code 3 (some FieldType.int) ∈ ex_WS := ex_mem (List.mem_append_right _ (List.mem_of_getElem? (i := 530) (by decide +kernel))) (by decide +kernel)
theorem w_531 : Cond.methodLink "FrontCache" 109 ⟨"FrontCache", "makeChange", "(III)I"⟩ ∈ ex_WS := ex_mem (List.mem_append_right _ (List.mem_of_getElem? (i := 531) (by decide +kernel))) (by decide +kernel)
theorem w_533 : Cond.instanceMethod ⟨"FrontCache", "makeChange", "(III)I"⟩ ∈ ex_WS := ex_mem (List.mem_append_right _ (List.mem_of_getElem? (i := 533) (by decide +kernel))) (by decide +kernel)
theorem w_534 : Cond.code ⟨"FrontCache", "makeChange", "(III)I"⟩ prog_1_method_29_code 5 (some FieldType.int) ∈ ex_WS := ex_mem (List.mem_append_right _ (List.mem_of_getElem? (i := 534) (by decide +kernel))) (by decide +kernel)
theorem w_535 : Cond.methodLink "FrontCache" 234 ⟨"FrontCache$Request", "<init>", "(IIII)V"⟩ ∈ ex_WS := ex_mem (List.mem_append_right _ (List.mem_of_getElem? (i := 535) (by decide +kernel))) (by decide +kernel)
theorem w_536 : Cond.instanceMethod ⟨"FrontCache$Request", "<init>", "(IIII)V"⟩ ∈ ex_WS := ex_mem (List.mem_append_right _ (List.mem_of_getElem? (i := 536) (by decide +kernel))) (by decide +kernel)
theorem w_537 : Cond.code ⟨"FrontCache$Request", "<init>", "(IIII)V"⟩ prog_8_method_2_code 5 none ∈ ex_WS := ex_mem (List.mem_append_right _ (List.mem_of_getElem? (i := 537) (by decide +kernel))) (by decide +kernel)
theorem w_538 : Cond.classLink "FrontCache$Request" 34 "FrontCache$Control" ∈ ex_WS := ex_mem (List.mem_append_right _ (List.mem_of_getElem? (i := 538) (by decide +kernel))) (by decide +kernel)
theorem w_539 : Cond.methodLink "FrontCache$Request" 36 ⟨"FrontCache$Control", "<init>", "()V"⟩ ∈ ex_WS := ex_mem (List.mem_append_right _ (List.mem_of_getElem? (i := 539) (by decide +kernel))) (by decide +kernel)
theorem w_540 : Cond.methodLink "FrontCacheLaw" 46 ⟨"FrontCache", "delete", "(I)I"⟩ ∈ ex_WS := ex_mem (List.mem_append_right _ (List.mem_of_getElem? (i := 540) (by decide +kernel))) (by decide +kernel)
theorem w_541 : Cond.instanceMethod ⟨"FrontCache", "delete", "(I)I"⟩ ∈ ex_WS := ex_mem (List.mem_append_right _ (List.mem_of_getElem? (i := 541) (by decide +kernel))) (by decide +kernel)
theorem w_542 : Cond.selects "FrontCache" ⟨"FrontCache", "delete", "(I)I"⟩ ⟨"FrontCache", "delete", "(I)I"⟩ ∈ ex_WS := ex_mem (List.mem_append_right _ (List.mem_of_getElem? (i := 542) (by decide +kernel))) (by decide +kernel)
theorem w_543 : Cond.code ⟨"FrontCache", "delete", "(I)I"⟩ prog_1_method_7_code 2 (some FieldType.int) ∈ ex_WS := ex_mem (List.mem_append_right _ (List.mem_of_getElem? (i := 543) (by decide +kernel))) (by decide +kernel)
theorem w_544 : Cond.methodLink "FrontCacheLaw" 51 ⟨"FrontCache", "deliver", "(I)Z"⟩ ∈ ex_WS := ex_mem (List.mem_append_right _ (List.mem_of_getElem? (i := 544) (by decide +kernel))) (by decide +kernel)
theorem w_545 : Cond.instanceMethod ⟨"FrontCache", "deliver", "(I)Z"⟩ ∈ ex_WS := ex_mem (List.mem_append_right _ (List.mem_of_getElem? (i := 545) (by decide +kernel))) (by decide +kernel)
theorem w_546 : Cond.selects "FrontCache" ⟨"FrontCache", "deliver", "(I)Z"⟩ ⟨"FrontCache", "deliver", "(I)Z"⟩ ∈ ex_WS := ex_mem (List.mem_append_right _ (List.mem_of_getElem? (i := 546) (by decide +kernel))) (by decide +kernel)
theorem w_547 : Cond.code ⟨"FrontCache", "deliver", "(I)Z"⟩ prog_1_method_8_code 3 (some FieldType.boolean) ∈ ex_WS := ex_mem (List.mem_append_right _ (List.mem_of_getElem? (i := 547) (by decide +kernel))) (by decide +kernel)
theorem w_548 : Cond.methodLink "FrontCache" 113 ⟨"FrontCache$UnderWay", "takeOut", "(I)LFrontCache$Message;"⟩ ∈ ex_WS := ex_mem (List.mem_append_right _ (List.mem_of_getElem? (i := 548) (by decide +kernel))) (by decide +kernel)
theorem w_549 : Cond.instanceMethod ⟨"FrontCache$UnderWay", "takeOut", "(I)LFrontCache$Message;"⟩ ∈ ex_WS := ex_mem (List.mem_append_right _ (List.mem_of_getElem? (i := 549) (by decide +kernel))) (by decide +kernel)
theorem w_550 : Cond.selects "FrontCache$UnderWay" ⟨"FrontCache$UnderWay", "takeOut", "(I)LFrontCache$Message;"⟩ ⟨"FrontCache$UnderWay", "takeOut", "(I)LFrontCache$Message;"⟩ ∈ ex_WS := ex_mem (List.mem_append_right _ (List.mem_of_getElem? (i := 550) (by decide +kernel))) (by decide +kernel)
theorem w_551 : Cond.code ⟨"FrontCache$UnderWay", "takeOut", "(I)LFrontCache$Message;"⟩ prog_11_method_4_code 4 (some (FieldType.object "FrontCache$Message")) ∈ ex_WS := ex_mem (List.mem_append_right _ (List.mem_of_getElem? (i := 551) (by decide +kernel))) (by decide +kernel)
theorem w_552 : Cond.methodLink "FrontCache$UnderWay" 19 ⟨"FrontCache$UnderWay", "at", "(I)LFrontCache$Message;"⟩ ∈ ex_WS := ex_mem (List.mem_append_right _ (List.mem_of_getElem? (i := 552) (by decide +kernel))) (by decide +kernel)
theorem w_553 : Cond.instanceMethod ⟨"FrontCache$UnderWay", "at", "(I)LFrontCache$Message;"⟩ ∈ ex_WS := ex_mem (List.mem_append_right _ (List.mem_of_getElem? (i := 553) (by decide +kernel))) (by decide +kernel)
theorem w_554 : Cond.selects "FrontCache$UnderWay" ⟨"FrontCache$UnderWay", "at", "(I)LFrontCache$Message;"⟩ ⟨"FrontCache$UnderWay", "at", "(I)LFrontCache$Message;"⟩ ∈ ex_WS := ex_mem (List.mem_append_right _ (List.mem_of_getElem? (i := 554) (by decide +kernel))) (by decide +kernel)
theorem w_555 : Cond.code ⟨"FrontCache$UnderWay", "at", "(I)LFrontCache$Message;"⟩ prog_11_method_2_code 2 (some (FieldType.object "FrontCache$Message")) ∈ ex_WS := ex_mem (List.mem_append_right _ (List.mem_of_getElem? (i := 555) (by decide +kernel))) (by decide +kernel)
theorem w_556 : Cond.methodLink "FrontCache" 123 ⟨"FrontCache", "comeToFront", "(LFrontCache$Message;)V"⟩ ∈ ex_WS := ex_mem (List.mem_append_right _ (List.mem_of_getElem? (i := 556) (by decide +kernel))) (by decide +kernel)
theorem w_558 : Cond.instanceMethod ⟨"FrontCache", "comeToFront", "(LFrontCache$Message;)V"⟩ ∈ ex_WS := ex_mem (List.mem_append_right _ (List.mem_of_getElem? (i := 558) (by decide +kernel))) (by decide +kernel)
theorem w_559 : Cond.code ⟨"FrontCache", "comeToFront", "(LFrontCache$Message;)V"⟩ prog_1_method_34_code 4 none ∈ ex_WS := ex_mem (List.mem_append_right _ (List.mem_of_getElem? (i := 559) (by decide +kernel))) (by decide +kernel)
theorem w_560 : Cond.methodLink "FrontCache" 299 ⟨"FrontCache$Connection", "hearProbe", "()V"⟩ ∈ ex_WS := ex_mem (List.mem_append_right _ (List.mem_of_getElem? (i := 560) (by decide +kernel))) (by decide +kernel)
theorem w_561 : Cond.instanceMethod ⟨"FrontCache$Connection", "hearProbe", "()V"⟩ ∈ ex_WS := ex_mem (List.mem_append_right _ (List.mem_of_getElem? (i := 561) (by decide +kernel))) (by decide +kernel)
theorem w_562 : Cond.selects "FrontCache$Connection" ⟨"FrontCache$Connection", "hearProbe", "()V"⟩ ⟨"FrontCache$Connection", "hearProbe", "()V"⟩ ∈ ex_WS := ex_mem (List.mem_append_right _ (List.mem_of_getElem? (i := 562) (by decide +kernel))) (by decide +kernel)
theorem w_563 : Cond.code ⟨"FrontCache$Connection", "hearProbe", "()V"⟩ prog_2_method_5_code 1 none ∈ ex_WS := ex_mem (List.mem_append_right _ (List.mem_of_getElem? (i := 563) (by decide +kernel))) (by decide +kernel)
theorem w_564 : Cond.methodLink "FrontCache" 302 ⟨"FrontCache$Connection", "finish", "(I)LFrontCache$Request;"⟩ ∈ ex_WS := ex_mem (List.mem_append_right _ (List.mem_of_getElem? (i := 564) (by decide +kernel))) (by decide +kernel)
theorem w_565 : Cond.instanceMethod ⟨"FrontCache$Connection", "finish", "(I)LFrontCache$Request;"⟩ ∈ ex_WS := ex_mem (List.mem_append_right _ (List.mem_of_getElem? (i := 565) (by decide +kernel))) (by decide +kernel)
theorem w_566 : Cond.selects "FrontCache$Connection" ⟨"FrontCache$Connection", "finish", "(I)LFrontCache$Request;"⟩ ⟨"FrontCache$Connection", "finish", "(I)LFrontCache$Request;"⟩ ∈ ex_WS := ex_mem (List.mem_append_right _ (List.mem_of_getElem? (i := 566) (by decide +kernel))) (by decide +kernel)
theorem w_567 : Cond.code ⟨"FrontCache$Connection", "finish", "(I)LFrontCache$Request;"⟩ prog_2_method_4_code 2 (some (FieldType.object "FrontCache$Request")) ∈ ex_WS := ex_mem (List.mem_append_right _ (List.mem_of_getElem? (i := 567) (by decide +kernel))) (by decide +kernel)
theorem w_568 : Cond.methodLink "FrontCache$Connection" 65 ⟨"FrontCache$Connection", "takeFirst", "()LFrontCache$Request;"⟩ ∈ ex_WS := ex_mem (List.mem_append_right _ (List.mem_of_getElem? (i := 568) (by decide +kernel))) (by decide +kernel)
theorem w_570 : Cond.instanceMethod ⟨"FrontCache$Connection", "takeFirst", "()LFrontCache$Request;"⟩ ∈ ex_WS := ex_mem (List.mem_append_right _ (List.mem_of_getElem? (i := 570) (by decide +kernel))) (by decide +kernel)
theorem w_571 : Cond.code ⟨"FrontCache$Connection", "takeFirst", "()LFrontCache$Request;"⟩ prog_2_method_9_code 3 (some (FieldType.object "FrontCache$Request")) ∈ ex_WS := ex_mem (List.mem_append_right _ (List.mem_of_getElem? (i := 571) (by decide +kernel))) (by decide +kernel)
theorem w_572 : Cond.methodLink "FrontCache" 307 ⟨"FrontCache", "settleFound", "(LFrontCache$Request;LFrontCache$Message;LFrontCache$Resource;)V"⟩ ∈ ex_WS := ex_mem (List.mem_append_right _ (List.mem_of_getElem? (i := 572) (by decide +kernel))) (by decide +kernel)
theorem w_574 : Cond.instanceMethod ⟨"FrontCache", "settleFound", "(LFrontCache$Request;LFrontCache$Message;LFrontCache$Resource;)V"⟩ ∈ ex_WS := ex_mem (List.mem_append_right _ (List.mem_of_getElem? (i := 574) (by decide +kernel))) (by decide +kernel)
theorem w_575 : Cond.code ⟨"FrontCache", "settleFound", "(LFrontCache$Request;LFrontCache$Message;LFrontCache$Resource;)V"⟩ prog_1_method_35_code 5 none ∈ ex_WS := ex_mem (List.mem_append_right _ (List.mem_of_getElem? (i := 575) (by decide +kernel))) (by decide +kernel)
theorem w_576 : Cond.methodLink "FrontCache" 322 ⟨"FrontCache$Store", "confirm", "(LFrontCache$Entry;)V"⟩ ∈ ex_WS := ex_mem (List.mem_append_right _ (List.mem_of_getElem? (i := 576) (by decide +kernel))) (by decide +kernel)
theorem w_577 : Cond.instanceMethod ⟨"FrontCache$Store", "confirm", "(LFrontCache$Entry;)V"⟩ ∈ ex_WS := ex_mem (List.mem_append_right _ (List.mem_of_getElem? (i := 577) (by decide +kernel))) (by decide +kernel)
theorem w_578 : Cond.selects "FrontCache$Store" ⟨"FrontCache$Store", "confirm", "(LFrontCache$Entry;)V"⟩ ⟨"FrontCache$Store", "confirm", "(LFrontCache$Entry;)V"⟩ ∈ ex_WS := ex_mem (List.mem_append_right _ (List.mem_of_getElem? (i := 578) (by decide +kernel))) (by decide +kernel)
theorem w_579 : Cond.code ⟨"FrontCache$Store", "confirm", "(LFrontCache$Entry;)V"⟩ prog_10_method_6_code 3 none ∈ ex_WS := ex_mem (List.mem_append_right _ (List.mem_of_getElem? (i := 579) (by decide +kernel))) (by decide +kernel)
theorem w_580 : Cond.methodLink "FrontCache$Store" 73 ⟨"FrontCache$Control", "allowsStoring", "()Z"⟩ ∈ ex_WS := ex_mem (List.mem_append_right _ (List.mem_of_getElem? (i := 580) (by decide +kernel))) (by decide +kernel)
theorem w_581 : Cond.instanceMethod ⟨"FrontCache$Control", "allowsStoring", "()Z"⟩ ∈ ex_WS := ex_mem (List.mem_append_right _ (List.mem_of_getElem? (i := 581) (by decide +kernel))) (by decide +kernel)
theorem w_582 : Cond.selects "FrontCache$Control" ⟨"FrontCache$Control", "allowsStoring", "()Z"⟩ ⟨"FrontCache$Control", "allowsStoring", "()Z"⟩ ∈ ex_WS := ex_mem (List.mem_append_right _ (List.mem_of_getElem? (i := 582) (by decide +kernel))) (by decide +kernel)
theorem w_583 : Cond.code ⟨"FrontCache$Control", "allowsStoring", "()Z"⟩ prog_3_method_8_code 1 (some FieldType.boolean) ∈ ex_WS := ex_mem (List.mem_append_right _ (List.mem_of_getElem? (i := 583) (by decide +kernel))) (by decide +kernel)
theorem w_584 : Cond.methodLink "FrontCache$Control" 47 ⟨"FrontCache$Control", "hasLifetime", "()Z"⟩ ∈ ex_WS := ex_mem (List.mem_append_right _ (List.mem_of_getElem? (i := 584) (by decide +kernel))) (by decide +kernel)
theorem w_585 : Cond.methodLink "FrontCache" 325 ⟨"FrontCache$Control", "allowsStoring", "()Z"⟩ ∈ ex_WS := ex_mem (List.mem_append_right _ (List.mem_of_getElem? (i := 585) (by decide +kernel))) (by decide +kernel)
theorem w_586 : Cond.classLink "FrontCache" 188 "FrontCache$Entry" ∈ ex_WS := ex_mem (List.mem_append_right _ (List.mem_of_getElem? (i := 586) (by decide +kernel))) (by decide +kernel)
theorem w_587 : Cond.instantiable "FrontCache$Entry" 6 ∈ ex_WS := ex_mem (List.mem_append_right _ (List.mem_of_getElem? (i := 587) (by decide +kernel))) (by decide +kernel)
theorem w_588 : Cond.methodLink "FrontCache" 328 ⟨"FrontCache$Entry", "<init>", "(IILFrontCache$Resource;I)V"⟩ ∈ ex_WS := ex_mem (List.mem_append_right _ (List.mem_of_getElem? (i := 588) (by decide +kernel))) (by decide +kernel)
theorem w_589 : Cond.instanceMethod ⟨"FrontCache$Entry", "<init>", "(IILFrontCache$Resource;I)V"⟩ ∈ ex_WS := ex_mem (List.mem_append_right _ (List.mem_of_getElem? (i := 589) (by decide +kernel))) (by decide +kernel)
theorem w_590 : Cond.code ⟨"FrontCache$Entry", "<init>", "(IILFrontCache$Resource;I)V"⟩ prog_5_method_1_code 5 none ∈ ex_WS := ex_mem (List.mem_append_right _ (List.mem_of_getElem? (i := 590) (by decide +kernel))) (by decide +kernel)
theorem w_591 : Cond.methodLink "FrontCache$Entry" 1 ⟨"java/lang/Object", "<init>", "()V"⟩ ∈ ex_WS := ex_mem (List.mem_append_right _ (List.mem_of_getElem? (i := 591) (by decide +kernel))) (by decide +kernel)
theorem w_592 : Cond.methodLink "FrontCache$Entry" 20 ⟨"FrontCache$Resource", "tagFor", "(I)I"⟩ ∈ ex_WS := ex_mem (List.mem_append_right _ (List.mem_of_getElem? (i := 592) (by decide +kernel))) (by decide +kernel)
theorem w_593 : Cond.instanceMethod ⟨"FrontCache$Resource", "tagFor", "(I)I"⟩ ∈ ex_WS := ex_mem (List.mem_append_right _ (List.mem_of_getElem? (i := 593) (by decide +kernel))) (by decide +kernel)
theorem w_594 : Cond.selects "FrontCache$Resource" ⟨"FrontCache$Resource", "tagFor", "(I)I"⟩ ⟨"FrontCache$Resource", "tagFor", "(I)I"⟩ ∈ ex_WS := ex_mem (List.mem_append_right _ (List.mem_of_getElem? (i := 594) (by decide +kernel))) (by decide +kernel)
theorem w_595 : Cond.code ⟨"FrontCache$Resource", "tagFor", "(I)I"⟩ prog_9_method_3_code 2 (some FieldType.int) ∈ ex_WS := ex_mem (List.mem_append_right _ (List.mem_of_getElem? (i := 595) (by decide +kernel))) (by decide +kernel)
theorem w_596 : Cond.fieldLink "FrontCache$Entry" 7 "FrontCache$Entry" "path" "I" ∈ ex_WS := ex_mem (List.mem_append_right _ (List.mem_of_getElem? (i := 596) (by decide +kernel))) (by decide +kernel)
theorem w_597 : Cond.fieldLink "FrontCache$Store" 41 "FrontCache$Entry" "path" "I" ∈ ex_WS := ex_mem (List.mem_append_right _ (List.mem_of_getElem? (i := 597) (by decide +kernel))) (by decide +kernel)
theorem w_598 : Cond.fieldLink "FrontCache" 187 "FrontCache$Entry" "path" "I" ∈ ex_WS := ex_mem (List.mem_append_right _ (List.mem_of_getElem? (i := 598) (by decide +kernel))) (by decide +kernel)
theorem w_599 : Cond.fieldLink "FrontCache$Entry" 13 "FrontCache$Entry" "variant" "I" ∈ ex_WS := ex_mem (List.mem_append_right _ (List.mem_of_getElem? (i := 599) (by decide +kernel))) (by decide +kernel)
theorem w_600 : Cond.fieldLink "FrontCache$Store" 44 "FrontCache$Entry" "variant" "I" ∈ ex_WS := ex_mem (List.mem_append_right _ (List.mem_of_getElem? (i := 600) (by decide +kernel))) (by decide +kernel)
theorem w_601 : Cond.fieldLink "FrontCache" 212 "FrontCache$Entry" "variant" "I" ∈ ex_WS := ex_mem (List.mem_append_right _ (List.mem_of_getElem? (i := 601) (by decide +kernel))) (by decide +kernel)
theorem w_602 : Cond.fieldLink "FrontCache$Entry" 16 "FrontCache$Entry" "resource" "LFrontCache$Resource;" ∈ ex_WS := ex_mem (List.mem_append_right _ (List.mem_of_getElem? (i := 602) (by decide +kernel))) (by decide +kernel)
theorem w_603 : Cond.fieldLink "FrontCache$Store" 28 "FrontCache$Entry" "resource" "LFrontCache$Resource;" ∈ ex_WS := ex_mem (List.mem_append_right _ (List.mem_of_getElem? (i := 603) (by decide +kernel))) (by decide +kernel)
theorem w_604 : Cond.fieldLink "FrontCache" 203 "FrontCache$Entry" "resource" "LFrontCache$Resource;" ∈ ex_WS := ex_mem (List.mem_append_right _ (List.mem_of_getElem? (i := 604) (by decide +kernel))) (by decide +kernel)
theorem w_605 : Cond.fieldLink "FrontCache$Entry" 26 "FrontCache$Entry" "tag" "I" ∈ ex_WS := ex_mem (List.mem_append_right _ (List.mem_of_getElem? (i := 605) (by decide +kernel))) (by decide +kernel)
theorem w_606 : Cond.fieldLink "FrontCache$Message" 32 "FrontCache$Entry" "tag" "I" ∈ ex_WS := ex_mem (List.mem_append_right _ (List.mem_of_getElem? (i := 606) (by decide +kernel))) (by decide +kernel)
theorem w_607 : Cond.fieldLink "FrontCache" 192 "FrontCache$Entry" "tag" "I" ∈ ex_WS := ex_mem (List.mem_append_right _ (List.mem_of_getElem? (i := 607) (by decide +kernel))) (by decide +kernel)
theorem w_608 : Cond.fieldLink "FrontCache$Entry" 33 "FrontCache$Entry" "control" "LFrontCache$Control;" ∈ ex_WS := ex_mem (List.mem_append_right _ (List.mem_of_getElem? (i := 608) (by decide +kernel))) (by decide +kernel)
theorem w_609 : Cond.fieldLink "FrontCache$Store" 69 "FrontCache$Entry" "control" "LFrontCache$Control;" ∈ ex_WS := ex_mem (List.mem_append_right _ (List.mem_of_getElem? (i := 609) (by decide +kernel))) (by decide +kernel)
theorem w_610 : Cond.fieldLink "FrontCache" 196 "FrontCache$Entry" "control" "LFrontCache$Control;" ∈ ex_WS := ex_mem (List.mem_append_right _ (List.mem_of_getElem? (i := 610) (by decide +kernel))) (by decide +kernel)
theorem w_611 : Cond.fieldLink "FrontCache$Entry" 34 "FrontCache$Entry" "date" "I" ∈ ex_WS := ex_mem (List.mem_append_right _ (List.mem_of_getElem? (i := 611) (by decide +kernel))) (by decide +kernel)
theorem w_612 : Cond.fieldLink "FrontCache" 321 "FrontCache$Entry" "date" "I" ∈ ex_WS := ex_mem (List.mem_append_right _ (List.mem_of_getElem? (i := 612) (by decide +kernel))) (by decide +kernel)
theorem w_626 : Cond.methodLink "FrontCache" 331 ⟨"FrontCache$Store", "add", "(LFrontCache$Entry;)V"⟩ ∈ ex_WS := ex_mem (List.mem_append_right _ (List.mem_of_getElem? (i := 626) (by decide +kernel))) (by decide +kernel)
theorem w_627 : Cond.instanceMethod ⟨"FrontCache$Store", "add", "(LFrontCache$Entry;)V"⟩ ∈ ex_WS := ex_mem (List.mem_append_right _ (List.mem_of_getElem? (i := 627) (by decide +kernel))) (by decide +kernel)
theorem w_628 : Cond.selects "FrontCache$Store" ⟨"FrontCache$Store", "add", "(LFrontCache$Entry;)V"⟩ ⟨"FrontCache$Store", "add", "(LFrontCache$Entry;)V"⟩ ∈ ex_WS := ex_mem (List.mem_append_right _ (List.mem_of_getElem? (i := 628) (by decide +kernel))) (by decide +kernel)
theorem w_629 : Cond.code ⟨"FrontCache$Store", "add", "(LFrontCache$Entry;)V"⟩ prog_10_method_4_code 4 none ∈ ex_WS := ex_mem (List.mem_append_right _ (List.mem_of_getElem? (i := 629) (by decide +kernel))) (by decide +kernel)
theorem w_630 : Cond.methodLink "FrontCache$Store" 47 ⟨"FrontCache$Store", "removeMatching", "(II)V"⟩ ∈ ex_WS := ex_mem (List.mem_append_right _ (List.mem_of_getElem? (i := 630) (by decide +kernel))) (by decide +kernel)
theorem w_631 : Cond.instanceMethod ⟨"FrontCache$Store", "removeMatching", "(II)V"⟩ ∈ ex_WS := ex_mem (List.mem_append_right _ (List.mem_of_getElem? (i := 631) (by decide +kernel))) (by decide +kernel)
theorem w_632 : Cond.selects "FrontCache$Store" ⟨"FrontCache$Store", "removeMatching", "(II)V"⟩ ⟨"FrontCache$Store", "removeMatching", "(II)V"⟩ ∈ ex_WS := ex_mem (List.mem_append_right _ (List.mem_of_getElem? (i := 632) (by decide +kernel))) (by decide +kernel)
theorem w_633 : Cond.code ⟨"FrontCache$Store", "removeMatching", "(II)V"⟩ prog_10_method_7_code 4 none ∈ ex_WS := ex_mem (List.mem_append_right _ (List.mem_of_getElem? (i := 633) (by decide +kernel))) (by decide +kernel)
theorem w_634 : Cond.methodLink "FrontCache$Store" 51 ⟨"FrontCache$Store", "removePath", "(I)V"⟩ ∈ ex_WS := ex_mem (List.mem_append_right _ (List.mem_of_getElem? (i := 634) (by decide +kernel))) (by decide +kernel)
theorem w_635 : Cond.instanceMethod ⟨"FrontCache$Store", "removePath", "(I)V"⟩ ∈ ex_WS := ex_mem (List.mem_append_right _ (List.mem_of_getElem? (i := 635) (by decide +kernel))) (by decide +kernel)
theorem w_636 : Cond.selects "FrontCache$Store" ⟨"FrontCache$Store", "removePath", "(I)V"⟩ ⟨"FrontCache$Store", "removePath", "(I)V"⟩ ∈ ex_WS := ex_mem (List.mem_append_right _ (List.mem_of_getElem? (i := 636) (by decide +kernel))) (by decide +kernel)
theorem w_637 : Cond.code ⟨"FrontCache$Store", "removePath", "(I)V"⟩ prog_10_method_8_code 3 none ∈ ex_WS := ex_mem (List.mem_append_right _ (List.mem_of_getElem? (i := 637) (by decide +kernel))) (by decide +kernel)
theorem w_638 : Cond.methodLink "FrontCache" 311 ⟨"FrontCache", "settleOther", "(LFrontCache$Request;I)V"⟩ ∈ ex_WS := ex_mem (List.mem_append_right _ (List.mem_of_getElem? (i := 638) (by decide +kernel))) (by decide +kernel)
theorem w_640 : Cond.instanceMethod ⟨"FrontCache", "settleOther", "(LFrontCache$Request;I)V"⟩ ∈ ex_WS := ex_mem (List.mem_append_right _ (List.mem_of_getElem? (i := 640) (by decide +kernel))) (by decide +kernel)
theorem w_641 : Cond.code ⟨"FrontCache", "settleOther", "(LFrontCache$Request;I)V"⟩ prog_1_method_36_code 3 none ∈ ex_WS := ex_mem (List.mem_append_right _ (List.mem_of_getElem? (i := 641) (by decide +kernel))) (by decide +kernel)
theorem w_642 : Cond.methodLink "FrontCache" 334 ⟨"FrontCache$Store", "removePath", "(I)V"⟩ ∈ ex_WS := ex_mem (List.mem_append_right _ (List.mem_of_getElem? (i := 642) (by decide +kernel))) (by decide +kernel)
theorem w_643 : Cond.methodLink "FrontCache" 337 ⟨"FrontCache$Store", "removeMatching", "(II)V"⟩ ∈ ex_WS := ex_mem (List.mem_append_right _ (List.mem_of_getElem? (i := 643) (by decide +kernel))) (by decide +kernel)
theorem w_644 : Cond.methodLink "FrontCache" 315 ⟨"FrontCache$Connection", "beginNext", "(ILFrontCache$UnderWay;)V"⟩ ∈ ex_WS := ex_mem (List.mem_append_right _ (List.mem_of_getElem? (i := 644) (by decide +kernel))) (by decide +kernel)
theorem w_645 : Cond.methodLink "FrontCache" 127 ⟨"FrontCache", "comeToOrigin", "(LFrontCache$Message;)V"⟩ ∈ ex_WS := ex_mem (List.mem_append_right _ (List.mem_of_getElem? (i := 645) (by decide +kernel))) (by decide +kernel)
theorem w_647 : Cond.instanceMethod ⟨"FrontCache", "comeToOrigin", "(LFrontCache$Message;)V"⟩ ∈ ex_WS := ex_mem (List.mem_append_right _ (List.mem_of_getElem? (i := 647) (by decide +kernel))) (by decide +kernel)
theorem w_648 : Cond.code ⟨"FrontCache", "comeToOrigin", "(LFrontCache$Message;)V"⟩ prog_1_method_32_code 3 none ∈ ex_WS := ex_mem (List.mem_append_right _ (List.mem_of_getElem? (i := 648) (by decide +kernel))) (by decide +kernel)
theorem w_649 : Cond.classLink "FrontCache" 118 "FrontCache$Message" ∈ ex_WS := ex_mem (List.mem_append_right _ (List.mem_of_getElem? (i := 649) (by decide +kernel))) (by decide +kernel)
theorem w_650 : Cond.methodLink "FrontCache" 274 ⟨"FrontCache$Message", "<init>", "(LFrontCache$Message;I)V"⟩ ∈ ex_WS := ex_mem (List.mem_append_right _ (List.mem_of_getElem? (i := 650) (by decide +kernel))) (by decide +kernel)
theorem w_651 : Cond.instanceMethod ⟨"FrontCache$Message", "<init>", "(LFrontCache$Message;I)V"⟩ ∈ ex_WS := ex_mem (List.mem_append_right _ (List.mem_of_getElem? (i := 651) (by decide +kernel))) (by decide +kernel)
theorem w_652 : Cond.code ⟨"FrontCache$Message", "<init>", "(LFrontCache$Message;I)V"⟩ prog_6_method_2_code 3 none ∈ ex_WS := ex_mem (List.mem_append_right _ (List.mem_of_getElem? (i := 652) (by decide +kernel))) (by decide +kernel)
theorem w_653 : Cond.methodLink "FrontCache$Message" 49 ⟨"FrontCache$Message", "<init>", "(LFrontCache$Message;IILFrontCache$Resource;I)V"⟩ ∈ ex_WS := ex_mem (List.mem_append_right _ (List.mem_of_getElem? (i := 653) (by decide +kernel))) (by decide +kernel)
theorem w_654 : Cond.instanceMethod ⟨"FrontCache$Message", "<init>", "(LFrontCache$Message;IILFrontCache$Resource;I)V"⟩ ∈ ex_WS := ex_mem (List.mem_append_right _ (List.mem_of_getElem? (i := 654) (by decide +kernel))) (by decide +kernel)
theorem w_655 : Cond.code ⟨"FrontCache$Message", "<init>", "(LFrontCache$Message;IILFrontCache$Resource;I)V"⟩ prog_6_method_3_code 6 none ∈ ex_WS := ex_mem (List.mem_append_right _ (List.mem_of_getElem? (i := 655) (by decide +kernel))) (by decide +kernel)
theorem w_656 : Cond.methodLink "FrontCache" 133 ⟨"FrontCache$UnderWay", "send", "(LFrontCache$Message;)Z"⟩ ∈ ex_WS := ex_mem (List.mem_append_right _ (List.mem_of_getElem? (i := 656) (by decide +kernel))) (by decide +kernel)
theorem w_657 : Cond.methodLink "FrontCache" 280 ⟨"FrontCache", "answerOfOrigin", "(LFrontCache$Message;LFrontCache$Request;)LFrontCache$Message;"⟩ ∈ ex_WS := ex_mem (List.mem_append_right _ (List.mem_of_getElem? (i := 657) (by decide +kernel))) (by decide +kernel)
theorem w_659 : Cond.instanceMethod ⟨"FrontCache", "answerOfOrigin", "(LFrontCache$Message;LFrontCache$Request;)LFrontCache$Message;"⟩ ∈ ex_WS := ex_mem (List.mem_append_right _ (List.mem_of_getElem? (i := 659) (by decide +kernel))) (by decide +kernel)
theorem w_660 : Cond.code ⟨"FrontCache", "answerOfOrigin", "(LFrontCache$Message;LFrontCache$Request;)LFrontCache$Message;"⟩ prog_1_method_33_code 5 (some (FieldType.object "FrontCache$Message")) ∈ ex_WS := ex_mem (List.mem_append_right _ (List.mem_of_getElem? (i := 660) (by decide +kernel))) (by decide +kernel)
theorem w_661 : Cond.methodLink "FrontCache" 293 ⟨"FrontCache$Resource", "tagFor", "(I)I"⟩ ∈ ex_WS := ex_mem (List.mem_append_right _ (List.mem_of_getElem? (i := 661) (by decide +kernel))) (by decide +kernel)
theorem w_662 : Cond.methodLink "FrontCache" 296 ⟨"FrontCache$Message", "<init>", "(LFrontCache$Message;IILFrontCache$Resource;I)V"⟩ ∈ ex_WS := ex_mem (List.mem_append_right _ (List.mem_of_getElem? (i := 662) (by decide +kernel))) (by decide +kernel)
theorem w_663 : Cond.methodLink "FrontCacheLaw" 55 ⟨"FrontCache", "lose", "(I)Z"⟩ ∈ ex_WS := ex_mem (List.mem_append_right _ (List.mem_of_getElem? (i := 663) (by decide +kernel))) (by decide +kernel)
theorem w_664 : Cond.instanceMethod ⟨"FrontCache", "lose", "(I)Z"⟩ ∈ ex_WS := ex_mem (List.mem_append_right _ (List.mem_of_getElem? (i := 664) (by decide +kernel))) (by decide +kernel)
theorem w_665 : Cond.selects "FrontCache" ⟨"FrontCache", "lose", "(I)Z"⟩ ⟨"FrontCache", "lose", "(I)Z"⟩ ∈ ex_WS := ex_mem (List.mem_append_right _ (List.mem_of_getElem? (i := 665) (by decide +kernel))) (by decide +kernel)
theorem w_666 : Cond.code ⟨"FrontCache", "lose", "(I)Z"⟩ prog_1_method_9_code 2 (some FieldType.boolean) ∈ ex_WS := ex_mem (List.mem_append_right _ (List.mem_of_getElem? (i := 666) (by decide +kernel))) (by decide +kernel)
theorem w_667 : Cond.methodLink "FrontCacheLaw" 59 ⟨"FrontCache", "copy", "(I)Z"⟩ ∈ ex_WS := ex_mem (List.mem_append_right _ (List.mem_of_getElem? (i := 667) (by decide +kernel))) (by decide +kernel)
theorem w_668 : Cond.instanceMethod ⟨"FrontCache", "copy", "(I)Z"⟩ ∈ ex_WS := ex_mem (List.mem_append_right _ (List.mem_of_getElem? (i := 668) (by decide +kernel))) (by decide +kernel)
theorem w_669 : Cond.selects "FrontCache" ⟨"FrontCache", "copy", "(I)Z"⟩ ⟨"FrontCache", "copy", "(I)Z"⟩ ∈ ex_WS := ex_mem (List.mem_append_right _ (List.mem_of_getElem? (i := 669) (by decide +kernel))) (by decide +kernel)
theorem w_670 : Cond.code ⟨"FrontCache", "copy", "(I)Z"⟩ prog_1_method_10_code 3 (some FieldType.boolean) ∈ ex_WS := ex_mem (List.mem_append_right _ (List.mem_of_getElem? (i := 670) (by decide +kernel))) (by decide +kernel)
theorem w_671 : Cond.methodLink "FrontCache" 130 ⟨"FrontCache$UnderWay", "at", "(I)LFrontCache$Message;"⟩ ∈ ex_WS := ex_mem (List.mem_append_right _ (List.mem_of_getElem? (i := 671) (by decide +kernel))) (by decide +kernel)
theorem w_672 : Cond.methodLink "FrontCacheLaw" 63 ⟨"FrontCache", "tick", "()I"⟩ ∈ ex_WS := ex_mem (List.mem_append_right _ (List.mem_of_getElem? (i := 672) (by decide +kernel))) (by decide +kernel)
theorem w_673 : Cond.instanceMethod ⟨"FrontCache", "tick", "()I"⟩ ∈ ex_WS := ex_mem (List.mem_append_right _ (List.mem_of_getElem? (i := 673) (by decide +kernel))) (by decide +kernel)
theorem w_674 : Cond.selects "FrontCache" ⟨"FrontCache", "tick", "()I"⟩ ⟨"FrontCache", "tick", "()I"⟩ ∈ ex_WS := ex_mem (List.mem_append_right _ (List.mem_of_getElem? (i := 674) (by decide +kernel))) (by decide +kernel)
theorem w_675 : Cond.code ⟨"FrontCache", "tick", "()I"⟩ prog_1_method_11_code 2 (some FieldType.int) ∈ ex_WS := ex_mem (List.mem_append_right _ (List.mem_of_getElem? (i := 675) (by decide +kernel))) (by decide +kernel)
theorem w_676 : Cond.methodLink "FrontCache" 140 ⟨"FrontCache$Connection", "doWhatIsDue", "(ILFrontCache$UnderWay;)V"⟩ ∈ ex_WS := ex_mem (List.mem_append_right _ (List.mem_of_getElem? (i := 676) (by decide +kernel))) (by decide +kernel)
theorem w_677 : Cond.instanceMethod ⟨"FrontCache$Connection", "doWhatIsDue", "(ILFrontCache$UnderWay;)V"⟩ ∈ ex_WS := ex_mem (List.mem_append_right _ (List.mem_of_getElem? (i := 677) (by decide +kernel))) (by decide +kernel)
theorem w_678 : Cond.selects "FrontCache$Connection" ⟨"FrontCache$Connection", "doWhatIsDue", "(ILFrontCache$UnderWay;)V"⟩ ⟨"FrontCache$Connection", "doWhatIsDue", "(ILFrontCache$UnderWay;)V"⟩ ∈ ex_WS := ex_mem (List.mem_append_right _ (List.mem_of_getElem? (i := 678) (by decide +kernel))) (by decide +kernel)
theorem w_679 : Cond.code ⟨"FrontCache$Connection", "doWhatIsDue", "(ILFrontCache$UnderWay;)V"⟩ prog_2_method_6_code 4 none ∈ ex_WS := ex_mem (List.mem_append_right _ (List.mem_of_getElem? (i := 679) (by decide +kernel))) (by decide +kernel)
theorem w_680 : Cond.methodLink "FrontCache$Connection" 72 ⟨"FrontCache$Connection", "giveUp", "(ILFrontCache$UnderWay;)V"⟩ ∈ ex_WS := ex_mem (List.mem_append_right _ (List.mem_of_getElem? (i := 680) (by decide +kernel))) (by decide +kernel)
theorem w_682 : Cond.instanceMethod ⟨"FrontCache$Connection", "giveUp", "(ILFrontCache$UnderWay;)V"⟩ ∈ ex_WS := ex_mem (List.mem_append_right _ (List.mem_of_getElem? (i := 682) (by decide +kernel))) (by decide +kernel)
theorem w_683 : Cond.code ⟨"FrontCache$Connection", "giveUp", "(ILFrontCache$UnderWay;)V"⟩ prog_2_method_7_code 3 none ∈ ex_WS := ex_mem (List.mem_append_right _ (List.mem_of_getElem? (i := 683) (by decide +kernel))) (by decide +kernel)
theorem w_684 : Cond.methodLink "FrontCache$Connection" 75 ⟨"FrontCache$Connection", "markDown", "(I)V"⟩ ∈ ex_WS := ex_mem (List.mem_append_right _ (List.mem_of_getElem? (i := 684) (by decide +kernel))) (by decide +kernel)
theorem w_686 : Cond.instanceMethod ⟨"FrontCache$Connection", "markDown", "(I)V"⟩ ∈ ex_WS := ex_mem (List.mem_append_right _ (List.mem_of_getElem? (i := 686) (by decide +kernel))) (by decide +kernel)
theorem w_687 : Cond.code ⟨"FrontCache$Connection", "markDown", "(I)V"⟩ prog_2_method_8_code 3 none ∈ ex_WS := ex_mem (List.mem_append_right _ (List.mem_of_getElem? (i := 687) (by decide +kernel))) (by decide +kernel)
theorem w_688 : Cond.methodLink "FrontCacheLaw" 68 ⟨"FrontCache", "power", "(IZ)Z"⟩ ∈ ex_WS := ex_mem (List.mem_append_right _ (List.mem_of_getElem? (i := 688) (by decide +kernel))) (by decide +kernel)
theorem w_689 : Cond.instanceMethod ⟨"FrontCache", "power", "(IZ)Z"⟩ ∈ ex_WS := ex_mem (List.mem_append_right _ (List.mem_of_getElem? (i := 689) (by decide +kernel))) (by decide +kernel)
theorem w_690 : Cond.selects "FrontCache" ⟨"FrontCache", "power", "(IZ)Z"⟩ ⟨"FrontCache", "power", "(IZ)Z"⟩ ∈ ex_WS := ex_mem (List.mem_append_right _ (List.mem_of_getElem? (i := 690) (by decide +kernel))) (by decide +kernel)
theorem w_691 : Cond.code ⟨"FrontCache", "power", "(IZ)Z"⟩ prog_1_method_12_code 3 (some FieldType.boolean) ∈ ex_WS := ex_mem (List.mem_append_right _ (List.mem_of_getElem? (i := 691) (by decide +kernel))) (by decide +kernel)
theorem w_692 : Cond.methodLink "FrontCache" 144 ⟨"FrontCache", "isOrigin", "(I)Z"⟩ ∈ ex_WS := ex_mem (List.mem_append_right _ (List.mem_of_getElem? (i := 692) (by decide +kernel))) (by decide +kernel)
theorem w_693 : Cond.static ⟨"FrontCache", "isOrigin", "(I)Z"⟩ ∈ ex_WS := ex_mem (List.mem_append_right _ (List.mem_of_getElem? (i := 693) (by decide +kernel))) (by decide +kernel)
theorem w_694 : Cond.code ⟨"FrontCache", "isOrigin", "(I)Z"⟩ prog_1_method_22_code 1 (some FieldType.boolean) ∈ ex_WS := ex_mem (List.mem_append_right _ (List.mem_of_getElem? (i := 694) (by decide +kernel))) (by decide +kernel)
theorem w_695 : Cond.methodLink "FrontCacheLaw" 73 ⟨"FrontCache", "answer", "(II)I"⟩ ∈ ex_WS := ex_mem (List.mem_append_right _ (List.mem_of_getElem? (i := 695) (by decide +kernel))) (by decide +kernel)
theorem w_696 : Cond.instanceMethod ⟨"FrontCache", "answer", "(II)I"⟩ ∈ ex_WS := ex_mem (List.mem_append_right _ (List.mem_of_getElem? (i := 696) (by decide +kernel))) (by decide +kernel)
theorem w_697 : Cond.selects "FrontCache" ⟨"FrontCache", "answer", "(II)I"⟩ ⟨"FrontCache", "answer", "(II)I"⟩ ∈ ex_WS := ex_mem (List.mem_append_right _ (List.mem_of_getElem? (i := 697) (by decide +kernel))) (by decide +kernel)
theorem w_698 : Cond.code ⟨"FrontCache", "answer", "(II)I"⟩ prog_1_method_13_code 4 (some FieldType.int) ∈ ex_WS := ex_mem (List.mem_append_right _ (List.mem_of_getElem? (i := 698) (by decide +kernel))) (by decide +kernel)
theorem w_699 : Cond.methodLink "FrontCacheLaw" 77 ⟨"FrontCache", "flights", "()I"⟩ ∈ ex_WS := ex_mem (List.mem_append_right _ (List.mem_of_getElem? (i := 699) (by decide +kernel))) (by decide +kernel)
theorem w_700 : Cond.instanceMethod ⟨"FrontCache", "flights", "()I"⟩ ∈ ex_WS := ex_mem (List.mem_append_right _ (List.mem_of_getElem? (i := 700) (by decide +kernel))) (by decide +kernel)
theorem w_701 : Cond.selects "FrontCache" ⟨"FrontCache", "flights", "()I"⟩ ⟨"FrontCache", "flights", "()I"⟩ ∈ ex_WS := ex_mem (List.mem_append_right _ (List.mem_of_getElem? (i := 701) (by decide +kernel))) (by decide +kernel)
theorem w_702 : Cond.code ⟨"FrontCache", "flights", "()I"⟩ prog_1_method_14_code 1 (some FieldType.int) ∈ ex_WS := ex_mem (List.mem_append_right _ (List.mem_of_getElem? (i := 702) (by decide +kernel))) (by decide +kernel)
theorem w_703 : Cond.methodLink "FrontCacheLaw" 81 ⟨"FrontCache", "flight", "(II)I"⟩ ∈ ex_WS := ex_mem (List.mem_append_right _ (List.mem_of_getElem? (i := 703) (by decide +kernel))) (by decide +kernel)
theorem w_704 : Cond.instanceMethod ⟨"FrontCache", "flight", "(II)I"⟩ ∈ ex_WS := ex_mem (List.mem_append_right _ (List.mem_of_getElem? (i := 704) (by decide +kernel))) (by decide +kernel)
theorem w_705 : Cond.selects "FrontCache" ⟨"FrontCache", "flight", "(II)I"⟩ ⟨"FrontCache", "flight", "(II)I"⟩ ∈ ex_WS := ex_mem (List.mem_append_right _ (List.mem_of_getElem? (i := 705) (by decide +kernel))) (by decide +kernel)
theorem w_706 : Cond.code ⟨"FrontCache", "flight", "(II)I"⟩ prog_1_method_15_code 4 (some FieldType.int) ∈ ex_WS := ex_mem (List.mem_append_right _ (List.mem_of_getElem? (i := 706) (by decide +kernel))) (by decide +kernel)
theorem w_707 : Cond.methodLink "FrontCacheLaw" 85 ⟨"FrontCache", "entries", "()I"⟩ ∈ ex_WS := ex_mem (List.mem_append_right _ (List.mem_of_getElem? (i := 707) (by decide +kernel))) (by decide +kernel)
theorem w_708 : Cond.instanceMethod ⟨"FrontCache", "entries", "()I"⟩ ∈ ex_WS := ex_mem (List.mem_append_right _ (List.mem_of_getElem? (i := 708) (by decide +kernel))) (by decide +kernel)
theorem w_709 : Cond.selects "FrontCache" ⟨"FrontCache", "entries", "()I"⟩ ⟨"FrontCache", "entries", "()I"⟩ ∈ ex_WS := ex_mem (List.mem_append_right _ (List.mem_of_getElem? (i := 709) (by decide +kernel))) (by decide +kernel)
theorem w_710 : Cond.code ⟨"FrontCache", "entries", "()I"⟩ prog_1_method_16_code 1 (some FieldType.int) ∈ ex_WS := ex_mem (List.mem_append_right _ (List.mem_of_getElem? (i := 710) (by decide +kernel))) (by decide +kernel)
theorem w_711 : Cond.methodLink "FrontCacheLaw" 89 ⟨"FrontCache", "entry", "(II)I"⟩ ∈ ex_WS := ex_mem (List.mem_append_right _ (List.mem_of_getElem? (i := 711) (by decide +kernel))) (by decide +kernel)
theorem w_712 : Cond.instanceMethod ⟨"FrontCache", "entry", "(II)I"⟩ ∈ ex_WS := ex_mem (List.mem_append_right _ (List.mem_of_getElem? (i := 712) (by decide +kernel))) (by decide +kernel)
theorem w_713 : Cond.selects "FrontCache" ⟨"FrontCache", "entry", "(II)I"⟩ ⟨"FrontCache", "entry", "(II)I"⟩ ∈ ex_WS := ex_mem (List.mem_append_right _ (List.mem_of_getElem? (i := 713) (by decide +kernel))) (by decide +kernel)
theorem w_714 : Cond.code ⟨"FrontCache", "entry", "(II)I"⟩ prog_1_method_17_code 4 (some FieldType.int) ∈ ex_WS := ex_mem (List.mem_append_right _ (List.mem_of_getElem? (i := 714) (by decide +kernel))) (by decide +kernel)
theorem w_715 : Cond.methodLink "FrontCache" 183 ⟨"FrontCache$Store", "usedLatest", "(I)LFrontCache$Entry;"⟩ ∈ ex_WS := ex_mem (List.mem_append_right _ (List.mem_of_getElem? (i := 715) (by decide +kernel))) (by decide +kernel)
theorem w_716 : Cond.instanceMethod ⟨"FrontCache$Store", "usedLatest", "(I)LFrontCache$Entry;"⟩ ∈ ex_WS := ex_mem (List.mem_append_right _ (List.mem_of_getElem? (i := 716) (by decide +kernel))) (by decide +kernel)
theorem w_717 : Cond.selects "FrontCache$Store" ⟨"FrontCache$Store", "usedLatest", "(I)LFrontCache$Entry;"⟩ ⟨"FrontCache$Store", "usedLatest", "(I)LFrontCache$Entry;"⟩ ∈ ex_WS := ex_mem (List.mem_append_right _ (List.mem_of_getElem? (i := 717) (by decide +kernel))) (by decide +kernel)
theorem w_718 : Cond.code ⟨"FrontCache$Store", "usedLatest", "(I)LFrontCache$Entry;"⟩ prog_10_method_2_code 2 (some (FieldType.object "FrontCache$Entry")) ∈ ex_WS := ex_mem (List.mem_append_right _ (List.mem_of_getElem? (i := 718) (by decide +kernel))) (by decide +kernel)
theorem w_719 : Cond.methodLink "FrontCache" 200 ⟨"FrontCache$Control", "lifetime", "()I"⟩ ∈ ex_WS := ex_mem (List.mem_append_right _ (List.mem_of_getElem? (i := 719) (by decide +kernel))) (by decide +kernel)
theorem w_720 : Cond.methodLink "FrontCacheLaw" 93 ⟨"FrontCache", "owner", "(I)I"⟩ ∈ ex_WS := ex_mem (List.mem_append_right _ (List.mem_of_getElem? (i := 720) (by decide +kernel))) (by decide +kernel)
theorem w_721 : Cond.instanceMethod ⟨"FrontCache", "owner", "(I)I"⟩ ∈ ex_WS := ex_mem (List.mem_append_right _ (List.mem_of_getElem? (i := 721) (by decide +kernel))) (by decide +kernel)
theorem w_722 : Cond.selects "FrontCache" ⟨"FrontCache", "owner", "(I)I"⟩ ⟨"FrontCache", "owner", "(I)I"⟩ ∈ ex_WS := ex_mem (List.mem_append_right _ (List.mem_of_getElem? (i := 722) (by decide +kernel))) (by decide +kernel)
theorem w_723 : Cond.code ⟨"FrontCache", "owner", "(I)I"⟩ prog_1_method_18_code 2 (some FieldType.int) ∈ ex_WS := ex_mem (List.mem_append_right _ (List.mem_of_getElem? (i := 723) (by decide +kernel))) (by decide +kernel)
theorem w_724 : Cond.methodLink "FrontCacheLaw" 97 ⟨"FrontCache", "waiting", "(I)I"⟩ ∈ ex_WS := ex_mem (List.mem_append_right _ (List.mem_of_getElem? (i := 724) (by decide +kernel))) (by decide +kernel)
theorem w_725 : Cond.instanceMethod ⟨"FrontCache", "waiting", "(I)I"⟩ ∈ ex_WS := ex_mem (List.mem_append_right _ (List.mem_of_getElem? (i := 725) (by decide +kernel))) (by decide +kernel)
theorem w_726 : Cond.selects "FrontCache" ⟨"FrontCache", "waiting", "(I)I"⟩ ⟨"FrontCache", "waiting", "(I)I"⟩ ∈ ex_WS := ex_mem (List.mem_append_right _ (List.mem_of_getElem? (i := 726) (by decide +kernel))) (by decide +kernel)
theorem w_727 : Cond.code ⟨"FrontCache", "waiting", "(I)I"⟩ prog_1_method_19_code 2 (some FieldType.int) ∈ ex_WS := ex_mem (List.mem_append_right _ (List.mem_of_getElem? (i := 727) (by decide +kernel))) (by decide +kernel)
theorem w_728 : Cond.methodLink "FrontCacheLaw" 101 ⟨"FrontCache", "version", "(I)I"⟩ ∈ ex_WS := ex_mem (List.mem_append_right _ (List.mem_of_getElem? (i := 728) (by decide +kernel))) (by decide +kernel)
theorem w_729 : Cond.instanceMethod ⟨"FrontCache", "version", "(I)I"⟩ ∈ ex_WS := ex_mem (List.mem_append_right _ (List.mem_of_getElem? (i := 729) (by decide +kernel))) (by decide +kernel)
theorem w_730 : Cond.selects "FrontCache" ⟨"FrontCache", "version", "(I)I"⟩ ⟨"FrontCache", "version", "(I)I"⟩ ∈ ex_WS := ex_mem (List.mem_append_right _ (List.mem_of_getElem? (i := 730) (by decide +kernel))) (by decide +kernel)
theorem w_731 : Cond.code ⟨"FrontCache", "version", "(I)I"⟩ prog_1_method_20_code 2 (some FieldType.int) ∈ ex_WS := ex_mem (List.mem_append_right _ (List.mem_of_getElem? (i := 731) (by decide +kernel))) (by decide +kernel)
theorem w_732 : Cond.methodLink "FrontCacheLaw" 9 ⟨"FrontCacheLaw", "cell", "([II)I"⟩ ∈ ex_WS := ex_mem (List.mem_append_right _ (List.mem_of_getElem? (i := 732) (by decide +kernel))) (by decide +kernel)
theorem w_733 : Cond.static ⟨"FrontCacheLaw", "cell", "([II)I"⟩ ∈ ex_WS := ex_mem (List.mem_append_right _ (List.mem_of_getElem? (i := 733) (by decide +kernel))) (by decide +kernel)
theorem w_734 : Cond.code ⟨"FrontCacheLaw", "cell", "([II)I"⟩ method_2_code 2 (some FieldType.int) ∈ ex_WS := ex_mem (List.mem_append_right _ (List.mem_of_getElem? (i := 734) (by decide +kernel))) (by decide +kernel)
theorem w_735 : Cond.classLink "FrontCacheLaw" 18 "FrontCacheModel" ∈ ex_WS := ex_mem (List.mem_append_right _ (List.mem_of_getElem? (i := 735) (by decide +kernel))) (by decide +kernel)
theorem w_736 : Cond.instantiable "FrontCacheModel" 32 ∈ ex_WS := ex_mem (List.mem_append_right _ (List.mem_of_getElem? (i := 736) (by decide +kernel))) (by decide +kernel)
theorem w_737 : Cond.methodLink "FrontCacheLaw" 20 ⟨"FrontCacheModel", "<init>", "(I)V"⟩ ∈ ex_WS := ex_mem (List.mem_append_right _ (List.mem_of_getElem? (i := 737) (by decide +kernel))) (by decide +kernel)
theorem w_738 : Cond.instanceMethod ⟨"FrontCacheModel", "<init>", "(I)V"⟩ ∈ ex_WS := ex_mem (List.mem_append_right _ (List.mem_of_getElem? (i := 738) (by decide +kernel))) (by decide +kernel)
theorem w_739 : Cond.code ⟨"FrontCacheModel", "<init>", "(I)V"⟩ prog_13_method_1_code 2 none ∈ ex_WS := ex_mem (List.mem_append_right _ (List.mem_of_getElem? (i := 739) (by decide +kernel))) (by decide +kernel)
theorem w_740 : Cond.methodLink "FrontCacheModel" 1 ⟨"java/lang/Object", "<init>", "()V"⟩ ∈ ex_WS := ex_mem (List.mem_append_right _ (List.mem_of_getElem? (i := 740) (by decide +kernel))) (by decide +kernel)
theorem w_741 : Cond.fieldLink "FrontCacheModel" 84 "FrontCacheModel" "capacity" "I" ∈ ex_WS := ex_mem (List.mem_append_right _ (List.mem_of_getElem? (i := 741) (by decide +kernel))) (by decide +kernel)
theorem w_742 : Cond.fieldLink "FrontCacheModel" 145 "FrontCacheModel" "time" "I" ∈ ex_WS := ex_mem (List.mem_append_right _ (List.mem_of_getElem? (i := 742) (by decide +kernel))) (by decide +kernel)
theorem w_743 : Cond.fieldLink "FrontCacheModel" 110 "FrontCacheModel" "versions" "I" ∈ ex_WS := ex_mem (List.mem_append_right _ (List.mem_of_getElem? (i := 743) (by decide +kernel))) (by decide +kernel)
theorem w_744 : Cond.fieldLink "FrontCacheModel" 7 "FrontCacheModel" "draft" "[C" ∈ ex_WS := ex_mem (List.mem_append_right _ (List.mem_of_getElem? (i := 744) (by decide +kernel))) (by decide +kernel)
theorem w_745 : Cond.fieldLink "FrontCacheModel" 88 "FrontCacheModel" "size" "I" ∈ ex_WS := ex_mem (List.mem_append_right _ (List.mem_of_getElem? (i := 745) (by decide +kernel))) (by decide +kernel)
theorem w_746 : Cond.fieldLink "FrontCacheModel" 13 "FrontCacheModel" "read" "[I" ∈ ex_WS := ex_mem (List.mem_append_right _ (List.mem_of_getElem? (i := 746) (by decide +kernel))) (by decide +kernel)
theorem w_747 : Cond.fieldLink "FrontCacheModel" 17 "FrontCacheModel" "names" "[C" ∈ ex_WS := ex_mem (List.mem_append_right _ (List.mem_of_getElem? (i := 747) (by decide +kernel))) (by decide +kernel)
theorem w_748 : Cond.fieldLink "FrontCacheModel" 20 "FrontCacheModel" "others" "[C" ∈ ex_WS := ex_mem (List.mem_append_right _ (List.mem_of_getElem? (i := 748) (by decide +kernel))) (by decide +kernel)
theorem w_749 : Cond.fieldLink "FrontCacheModel" 23 "FrontCacheModel" "version" "[I" ∈ ex_WS := ex_mem (List.mem_append_right _ (List.mem_of_getElem? (i := 749) (by decide +kernel))) (by decide +kernel)
theorem w_750 : Cond.fieldLink "FrontCacheModel" 26 "FrontCacheModel" "big" "[I" ∈ ex_WS := ex_mem (List.mem_append_right _ (List.mem_of_getElem? (i := 750) (by decide +kernel))) (by decide +kernel)
theorem w_751 : Cond.fieldLink "FrontCacheModel" 29 "FrontCacheModel" "vary" "[I" ∈ ex_WS := ex_mem (List.mem_append_right _ (List.mem_of_getElem? (i := 751) (by decide +kernel))) (by decide +kernel)
theorem w_752 : Cond.fieldLink "FrontCacheModel" 32 "FrontCacheModel" "control" "[I" ∈ ex_WS := ex_mem (List.mem_append_right _ (List.mem_of_getElem? (i := 752) (by decide +kernel))) (by decide +kernel)
theorem w_753 : Cond.fieldLink "FrontCacheModel" 116 "FrontCacheModel" "stored" "I" ∈ ex_WS := ex_mem (List.mem_append_right _ (List.mem_of_getElem? (i := 753) (by decide +kernel))) (by decide +kernel)
theorem w_754 : Cond.fieldLink "FrontCacheModel" 135 "FrontCacheModel" "newest" "I" ∈ ex_WS := ex_mem (List.mem_append_right _ (List.mem_of_getElem? (i := 754) (by decide +kernel))) (by decide +kernel)
theorem w_755 : Cond.fieldLink "FrontCacheModel" 35 "FrontCacheModel" "entry" "[I" ∈ ex_WS := ex_mem (List.mem_append_right _ (List.mem_of_getElem? (i := 755) (by decide +kernel))) (by decide +kernel)
theorem w_756 : Cond.fieldLink "FrontCacheModel" 38 "FrontCacheModel" "rule" "[I" ∈ ex_WS := ex_mem (List.mem_append_right _ (List.mem_of_getElem? (i := 756) (by decide +kernel))) (by decide +kernel)
theorem w_757 : Cond.fieldLink "FrontCacheModel" 138 "FrontCacheModel" "made" "I" ∈ ex_WS := ex_mem (List.mem_append_right _ (List.mem_of_getElem? (i := 757) (by decide +kernel))) (by decide +kernel)
theorem w_758 : Cond.fieldLink "FrontCacheModel" 41 "FrontCacheModel" "status" "[I" ∈ ex_WS := ex_mem (List.mem_append_right _ (List.mem_of_getElem? (i := 758) (by decide +kernel))) (by decide +kernel)
theorem w_759 : Cond.fieldLink "FrontCacheModel" 44 "FrontCacheModel" "tag" "[I" ∈ ex_WS := ex_mem (List.mem_append_right _ (List.mem_of_getElem? (i := 759) (by decide +kernel))) (by decide +kernel)
theorem w_760 : Cond.fieldLink "FrontCacheModel" 47 "FrontCacheModel" "age" "[I" ∈ ex_WS := ex_mem (List.mem_append_right _ (List.mem_of_getElem? (i := 760) (by decide +kernel))) (by decide +kernel)
theorem w_761 : Cond.fieldLink "FrontCacheModel" 50 "FrontCacheModel" "way" "[I" ∈ ex_WS := ex_mem (List.mem_append_right _ (List.mem_of_getElem? (i := 761) (by decide +kernel))) (by decide +kernel)
theorem w_762 : Cond.fieldLink "FrontCacheModel" 53 "FrontCacheModel" "count" "[I" ∈ ex_WS := ex_mem (List.mem_append_right _ (List.mem_of_getElem? (i := 762) (by decide +kernel))) (by decide +kernel)
theorem w_763 : Cond.fieldLink "FrontCacheModel" 56 "FrontCacheModel" "wait" "[I" ∈ ex_WS := ex_mem (List.mem_append_right _ (List.mem_of_getElem? (i := 763) (by decide +kernel))) (by decide +kernel)
theorem w_764 : Cond.fieldLink "FrontCacheModel" 59 "FrontCacheModel" "wish" "[I" ∈ ex_WS := ex_mem (List.mem_append_right _ (List.mem_of_getElem? (i := 764) (by decide +kernel))) (by decide +kernel)
theorem w_765 : Cond.fieldLink "FrontCacheModel" 62 "FrontCacheModel" "given" "[I" ∈ ex_WS := ex_mem (List.mem_append_right _ (List.mem_of_getElem? (i := 765) (by decide +kernel))) (by decide +kernel)
theorem w_766 : Cond.fieldLink "FrontCacheModel" 65 "FrontCacheModel" "since" "[I" ∈ ex_WS := ex_mem (List.mem_append_right _ (List.mem_of_getElem? (i := 766) (by decide +kernel))) (by decide +kernel)
theorem w_767 : Cond.fieldLink "FrontCacheModel" 68 "FrontCacheModel" "lost" "[I" ∈ ex_WS := ex_mem (List.mem_append_right _ (List.mem_of_getElem? (i := 767) (by decide +kernel))) (by decide +kernel)
theorem w_768 : Cond.fieldLink "FrontCacheModel" 71 "FrontCacheModel" "down" "[Z" ∈ ex_WS := ex_mem (List.mem_append_right _ (List.mem_of_getElem? (i := 768) (by decide +kernel))) (by decide +kernel)
theorem w_769 : Cond.fieldLink "FrontCacheModel" 75 "FrontCacheModel" "stopped" "[Z" ∈ ex_WS := ex_mem (List.mem_append_right _ (List.mem_of_getElem? (i := 769) (by decide +kernel))) (by decide +kernel)
theorem w_770 : Cond.fieldLink "FrontCacheModel" 78 "FrontCacheModel" "taken" "[I" ∈ ex_WS := ex_mem (List.mem_append_right _ (List.mem_of_getElem? (i := 770) (by decide +kernel))) (by decide +kernel)
theorem w_771 : Cond.fieldLink "FrontCacheModel" 174 "FrontCacheModel" "flying" "I" ∈ ex_WS := ex_mem (List.mem_append_right _ (List.mem_of_getElem? (i := 771) (by decide +kernel))) (by decide +kernel)
theorem w_772 : Cond.fieldLink "FrontCacheModel" 81 "FrontCacheModel" "row" "[I" ∈ ex_WS := ex_mem (List.mem_append_right _ (List.mem_of_getElem? (i := 772) (by decide +kernel))) (by decide +kernel)
theorem w_838 : Cond.arrayClass FieldType.boolean ∈ ex_WS := ex_mem (List.mem_append_right _ (List.mem_of_getElem? (i := 838) (by decide +kernel))) (by decide +kernel)
theorem w_839 : Cond.methodLink "FrontCacheLaw" 25 ⟨"FrontCacheModel", "type", "(C)Z"⟩ ∈ ex_WS := ex_mem (List.mem_append_right _ (List.mem_of_getElem? (i := 839) (by decide +kernel))) (by decide +kernel)
theorem w_840 : Cond.instanceMethod ⟨"FrontCacheModel", "type", "(C)Z"⟩ ∈ ex_WS := ex_mem (List.mem_append_right _ (List.mem_of_getElem? (i := 840) (by decide +kernel))) (by decide +kernel)
theorem w_841 : Cond.selects "FrontCacheModel" ⟨"FrontCacheModel", "type", "(C)Z"⟩ ⟨"FrontCacheModel", "type", "(C)Z"⟩ ∈ ex_WS := ex_mem (List.mem_append_right _ (List.mem_of_getElem? (i := 841) (by decide +kernel))) (by decide +kernel)
theorem w_842 : Cond.code ⟨"FrontCacheModel", "type", "(C)Z"⟩ prog_13_method_2_code 2 (some FieldType.boolean) ∈ ex_WS := ex_mem (List.mem_append_right _ (List.mem_of_getElem? (i := 842) (by decide +kernel))) (by decide +kernel)
theorem w_843 : Cond.methodLink "FrontCacheLaw" 96 ⟨"FrontCacheModel", "owner", "(I)I"⟩ ∈ ex_WS := ex_mem (List.mem_append_right _ (List.mem_of_getElem? (i := 843) (by decide +kernel))) (by decide +kernel)
theorem w_844 : Cond.instanceMethod ⟨"FrontCacheModel", "owner", "(I)I"⟩ ∈ ex_WS := ex_mem (List.mem_append_right _ (List.mem_of_getElem? (i := 844) (by decide +kernel))) (by decide +kernel)
theorem w_845 : Cond.selects "FrontCacheModel" ⟨"FrontCacheModel", "owner", "(I)I"⟩ ⟨"FrontCacheModel", "owner", "(I)I"⟩ ∈ ex_WS := ex_mem (List.mem_append_right _ (List.mem_of_getElem? (i := 845) (by decide +kernel))) (by decide +kernel)
theorem w_846 : Cond.code ⟨"FrontCacheModel", "owner", "(I)I"⟩ prog_13_method_9_code 4 (some FieldType.int) ∈ ex_WS := ex_mem (List.mem_append_right _ (List.mem_of_getElem? (i := 846) (by decide +kernel))) (by decide +kernel)
theorem w_847 : Cond.methodLink "FrontCacheModel" 99 ⟨"FrontCacheModel", "isPath", "(I)Z"⟩ ∈ ex_WS := ex_mem (List.mem_append_right _ (List.mem_of_getElem? (i := 847) (by decide +kernel))) (by decide +kernel)
theorem w_848 : Cond.static ⟨"FrontCacheModel", "isPath", "(I)Z"⟩ ∈ ex_WS := ex_mem (List.mem_append_right _ (List.mem_of_getElem? (i := 848) (by decide +kernel))) (by decide +kernel)
theorem w_849 : Cond.code ⟨"FrontCacheModel", "isPath", "(I)Z"⟩ prog_13_method_7_code 1 (some FieldType.boolean) ∈ ex_WS := ex_mem (List.mem_append_right _ (List.mem_of_getElem? (i := 849) (by decide +kernel))) (by decide +kernel)
theorem w_850 : Cond.methodLink "FrontCacheModel" 103 ⟨"FrontCacheModel", "weight", "(II)I"⟩ ∈ ex_WS := ex_mem (List.mem_append_right _ (List.mem_of_getElem? (i := 850) (by decide +kernel))) (by decide +kernel)
theorem w_851 : Cond.static ⟨"FrontCacheModel", "weight", "(II)I"⟩ ∈ ex_WS := ex_mem (List.mem_append_right _ (List.mem_of_getElem? (i := 851) (by decide +kernel))) (by decide +kernel)
theorem w_852 : Cond.code ⟨"FrontCacheModel", "weight", "(II)I"⟩ prog_13_method_10_code 2 (some FieldType.int) ∈ ex_WS := ex_mem (List.mem_append_right _ (List.mem_of_getElem? (i := 852) (by decide +kernel))) (by decide +kernel)
theorem w_853 : Cond.methodLink "FrontCacheLaw" 104 ⟨"FrontCacheModel", "version", "(I)I"⟩ ∈ ex_WS := ex_mem (List.mem_append_right _ (List.mem_of_getElem? (i := 853) (by decide +kernel))) (by decide +kernel)
theorem w_854 : Cond.instanceMethod ⟨"FrontCacheModel", "version", "(I)I"⟩ ∈ ex_WS := ex_mem (List.mem_append_right _ (List.mem_of_getElem? (i := 854) (by decide +kernel))) (by decide +kernel)
theorem w_855 : Cond.selects "FrontCacheModel" ⟨"FrontCacheModel", "version", "(I)I"⟩ ⟨"FrontCacheModel", "version", "(I)I"⟩ ∈ ex_WS := ex_mem (List.mem_append_right _ (List.mem_of_getElem? (i := 855) (by decide +kernel))) (by decide +kernel)
theorem w_856 : Cond.code ⟨"FrontCacheModel", "version", "(I)I"⟩ prog_13_method_11_code 2 (some FieldType.int) ∈ ex_WS := ex_mem (List.mem_append_right _ (List.mem_of_getElem? (i := 856) (by decide +kernel))) (by decide +kernel)
theorem w_857 : Cond.methodLink "FrontCacheLaw" 30 ⟨"FrontCacheModel", "publish", "(IIZ)I"⟩ ∈ ex_WS := ex_mem (List.mem_append_right _ (List.mem_of_getElem? (i := 857) (by decide +kernel))) (by decide +kernel)
theorem w_858 : Cond.instanceMethod ⟨"FrontCacheModel", "publish", "(IIZ)I"⟩ ∈ ex_WS := ex_mem (List.mem_append_right _ (List.mem_of_getElem? (i := 858) (by decide +kernel))) (by decide +kernel)
theorem w_859 : Cond.selects "FrontCacheModel" ⟨"FrontCacheModel", "publish", "(IIZ)I"⟩ ⟨"FrontCacheModel", "publish", "(IIZ)I"⟩ ∈ ex_WS := ex_mem (List.mem_append_right _ (List.mem_of_getElem? (i := 859) (by decide +kernel))) (by decide +kernel)
theorem w_860 : Cond.code ⟨"FrontCacheModel", "publish", "(IIZ)I"⟩ prog_13_method_12_code 5 (some FieldType.int) ∈ ex_WS := ex_mem (List.mem_append_right _ (List.mem_of_getElem? (i := 860) (by decide +kernel))) (by decide +kernel)
theorem w_861 : Cond.methodLink "FrontCacheModel" 107 ⟨"FrontCacheModel", "parse", "()V"⟩ ∈ ex_WS := ex_mem (List.mem_append_right _ (List.mem_of_getElem? (i := 861) (by decide +kernel))) (by decide +kernel)
theorem w_863 : Cond.instanceMethod ⟨"FrontCacheModel", "parse", "()V"⟩ ∈ ex_WS := ex_mem (List.mem_append_right _ (List.mem_of_getElem? (i := 863) (by decide +kernel))) (by decide +kernel)
theorem w_864 : Cond.code ⟨"FrontCacheModel", "parse", "()V"⟩ prog_13_method_4_code 6 none ∈ ex_WS := ex_mem (List.mem_append_right _ (List.mem_of_getElem? (i := 864) (by decide +kernel))) (by decide +kernel)
theorem w_865 : Cond.methodLink "FrontCacheModel" 91 ⟨"FrontCacheModel", "element", "(III)I"⟩ ∈ ex_WS := ex_mem (List.mem_append_right _ (List.mem_of_getElem? (i := 865) (by decide +kernel))) (by decide +kernel)
theorem w_867 : Cond.instanceMethod ⟨"FrontCacheModel", "element", "(III)I"⟩ ∈ ex_WS := ex_mem (List.mem_append_right _ (List.mem_of_getElem? (i := 867) (by decide +kernel))) (by decide +kernel)
theorem w_868 : Cond.code ⟨"FrontCacheModel", "element", "(III)I"⟩ prog_13_method_5_code 7 (some FieldType.int) ∈ ex_WS := ex_mem (List.mem_append_right _ (List.mem_of_getElem? (i := 868) (by decide +kernel))) (by decide +kernel)
theorem w_869 : Cond.methodLink "FrontCacheModel" 95 ⟨"FrontCacheModel", "is", "(ZIIII)Z"⟩ ∈ ex_WS := ex_mem (List.mem_append_right _ (List.mem_of_getElem? (i := 869) (by decide +kernel))) (by decide +kernel)
theorem w_871 : Cond.instanceMethod ⟨"FrontCacheModel", "is", "(ZIIII)Z"⟩ ∈ ex_WS := ex_mem (List.mem_append_right _ (List.mem_of_getElem? (i := 871) (by decide +kernel))) (by decide +kernel)
theorem w_872 : Cond.code ⟨"FrontCacheModel", "is", "(ZIIII)Z"⟩ prog_13_method_3_code 8 (some FieldType.boolean) ∈ ex_WS := ex_mem (List.mem_append_right _ (List.mem_of_getElem? (i := 872) (by decide +kernel))) (by decide +kernel)
theorem w_873 : Cond.methodLink "FrontCacheLaw" 35 ⟨"FrontCacheModel", "withdraw", "(I)Z"⟩ ∈ ex_WS := ex_mem (List.mem_append_right _ (List.mem_of_getElem? (i := 873) (by decide +kernel))) (by decide +kernel)
theorem w_874 : Cond.instanceMethod ⟨"FrontCacheModel", "withdraw", "(I)Z"⟩ ∈ ex_WS := ex_mem (List.mem_append_right _ (List.mem_of_getElem? (i := 874) (by decide +kernel))) (by decide +kernel)
theorem w_875 : Cond.selects "FrontCacheModel" ⟨"FrontCacheModel", "withdraw", "(I)Z"⟩ ⟨"FrontCacheModel", "withdraw", "(I)Z"⟩ ∈ ex_WS := ex_mem (List.mem_append_right _ (List.mem_of_getElem? (i := 875) (by decide +kernel))) (by decide +kernel)
theorem w_876 : Cond.code ⟨"FrontCacheModel", "withdraw", "(I)Z"⟩ prog_13_method_13_code 2 (some FieldType.boolean) ∈ ex_WS := ex_mem (List.mem_append_right _ (List.mem_of_getElem? (i := 876) (by decide +kernel))) (by decide +kernel)
theorem w_877 : Cond.methodLink "FrontCacheLaw" 40 ⟨"FrontCacheModel", "get", "(III)I"⟩ ∈ ex_WS := ex_mem (List.mem_append_right _ (List.mem_of_getElem? (i := 877) (by decide +kernel))) (by decide +kernel)
theorem w_878 : Cond.instanceMethod ⟨"FrontCacheModel", "get", "(III)I"⟩ ∈ ex_WS := ex_mem (List.mem_append_right _ (List.mem_of_getElem? (i := 878) (by decide +kernel))) (by decide +kernel)
theorem w_879 : Cond.selects "FrontCacheModel" ⟨"FrontCacheModel", "get", "(III)I"⟩ ⟨"FrontCacheModel", "get", "(III)I"⟩ ∈ ex_WS := ex_mem (List.mem_append_right _ (List.mem_of_getElem? (i := 879) (by decide +kernel))) (by decide +kernel)
theorem w_880 : Cond.code ⟨"FrontCacheModel", "get", "(III)I"⟩ prog_13_method_27_code 7 (some FieldType.int) ∈ ex_WS := ex_mem (List.mem_append_right _ (List.mem_of_getElem? (i := 880) (by decide +kernel))) (by decide +kernel)
theorem w_881 : Cond.methodLink "FrontCacheModel" 148 ⟨"FrontCacheModel", "next", "()I"⟩ ∈ ex_WS := ex_mem (List.mem_append_right _ (List.mem_of_getElem? (i := 881) (by decide +kernel))) (by decide +kernel)
theorem w_883 : Cond.instanceMethod ⟨"FrontCacheModel", "next", "()I"⟩ ∈ ex_WS := ex_mem (List.mem_append_right _ (List.mem_of_getElem? (i := 883) (by decide +kernel))) (by decide +kernel)
theorem w_884 : Cond.code ⟨"FrontCacheModel", "next", "()I"⟩ prog_13_method_25_code 1 (some FieldType.int) ∈ ex_WS := ex_mem (List.mem_append_right _ (List.mem_of_getElem? (i := 884) (by decide +kernel))) (by decide +kernel)
theorem w_885 : Cond.methodLink "FrontCacheModel" 141 ⟨"FrontCacheModel", "reply", "(IIIII)V"⟩ ∈ ex_WS := ex_mem (List.mem_append_right _ (List.mem_of_getElem? (i := 885) (by decide +kernel))) (by decide +kernel)
theorem w_887 : Cond.instanceMethod ⟨"FrontCacheModel", "reply", "(IIIII)V"⟩ ∈ ex_WS := ex_mem (List.mem_append_right _ (List.mem_of_getElem? (i := 887) (by decide +kernel))) (by decide +kernel)
theorem w_888 : Cond.code ⟨"FrontCacheModel", "reply", "(IIIII)V"⟩ prog_13_method_24_code 6 none ∈ ex_WS := ex_mem (List.mem_append_right _ (List.mem_of_getElem? (i := 888) (by decide +kernel))) (by decide +kernel)
theorem w_889 : Cond.methodLink "FrontCacheModel" 151 ⟨"FrontCacheModel", "find", "(II)I"⟩ ∈ ex_WS := ex_mem (List.mem_append_right _ (List.mem_of_getElem? (i := 889) (by decide +kernel))) (by decide +kernel)
theorem w_891 : Cond.instanceMethod ⟨"FrontCacheModel", "find", "(II)I"⟩ ∈ ex_WS := ex_mem (List.mem_append_right _ (List.mem_of_getElem? (i := 891) (by decide +kernel))) (by decide +kernel)
theorem w_892 : Cond.code ⟨"FrontCacheModel", "find", "(II)I"⟩ prog_13_method_17_code 4 (some FieldType.int) ∈ ex_WS := ex_mem (List.mem_append_right _ (List.mem_of_getElem? (i := 892) (by decide +kernel))) (by decide +kernel)
theorem w_893 : Cond.methodLink "FrontCacheModel" 119 ⟨"FrontCacheModel", "matches", "(III)Z"⟩ ∈ ex_WS := ex_mem (List.mem_append_right _ (List.mem_of_getElem? (i := 893) (by decide +kernel))) (by decide +kernel)
theorem w_895 : Cond.instanceMethod ⟨"FrontCacheModel", "matches", "(III)Z"⟩ ∈ ex_WS := ex_mem (List.mem_append_right _ (List.mem_of_getElem? (i := 895) (by decide +kernel))) (by decide +kernel)
theorem w_896 : Cond.code ⟨"FrontCacheModel", "matches", "(III)Z"⟩ prog_13_method_16_code 4 (some FieldType.boolean) ∈ ex_WS := ex_mem (List.mem_append_right _ (List.mem_of_getElem? (i := 896) (by decide +kernel))) (by decide +kernel)
theorem w_897 : Cond.methodLink "FrontCacheModel" 113 ⟨"FrontCacheModel", "part", "(II)I"⟩ ∈ ex_WS := ex_mem (List.mem_append_right _ (List.mem_of_getElem? (i := 897) (by decide +kernel))) (by decide +kernel)
theorem w_899 : Cond.instanceMethod ⟨"FrontCacheModel", "part", "(II)I"⟩ ∈ ex_WS := ex_mem (List.mem_append_right _ (List.mem_of_getElem? (i := 899) (by decide +kernel))) (by decide +kernel)
theorem w_900 : Cond.code ⟨"FrontCacheModel", "part", "(II)I"⟩ prog_13_method_14_code 3 (some FieldType.int) ∈ ex_WS := ex_mem (List.mem_append_right _ (List.mem_of_getElem? (i := 900) (by decide +kernel))) (by decide +kernel)
theorem w_901 : Cond.methodLink "FrontCacheModel" 154 ⟨"FrontCacheModel", "hits", "(I)Z"⟩ ∈ ex_WS := ex_mem (List.mem_append_right _ (List.mem_of_getElem? (i := 901) (by decide +kernel))) (by decide +kernel)
theorem w_903 : Cond.instanceMethod ⟨"FrontCacheModel", "hits", "(I)Z"⟩ ∈ ex_WS := ex_mem (List.mem_append_right _ (List.mem_of_getElem? (i := 903) (by decide +kernel))) (by decide +kernel)
theorem w_904 : Cond.code ⟨"FrontCacheModel", "hits", "(I)Z"⟩ prog_13_method_26_code 7 (some FieldType.boolean) ∈ ex_WS := ex_mem (List.mem_append_right _ (List.mem_of_getElem? (i := 904) (by decide +kernel))) (by decide +kernel)
theorem w_905 : Cond.methodLink "FrontCacheModel" 157 ⟨"FrontCacheModel", "tagOf", "(I)I"⟩ ∈ ex_WS := ex_mem (List.mem_append_right _ (List.mem_of_getElem? (i := 905) (by decide +kernel))) (by decide +kernel)
theorem w_907 : Cond.instanceMethod ⟨"FrontCacheModel", "tagOf", "(I)I"⟩ ∈ ex_WS := ex_mem (List.mem_append_right _ (List.mem_of_getElem? (i := 907) (by decide +kernel))) (by decide +kernel)
theorem w_908 : Cond.code ⟨"FrontCacheModel", "tagOf", "(I)I"⟩ prog_13_method_15_code 2 (some FieldType.int) ∈ ex_WS := ex_mem (List.mem_append_right _ (List.mem_of_getElem? (i := 908) (by decide +kernel))) (by decide +kernel)
theorem w_909 : Cond.methodLink "FrontCacheModel" 161 ⟨"FrontCacheModel", "use", "(I)V"⟩ ∈ ex_WS := ex_mem (List.mem_append_right _ (List.mem_of_getElem? (i := 909) (by decide +kernel))) (by decide +kernel)
theorem w_911 : Cond.instanceMethod ⟨"FrontCacheModel", "use", "(I)V"⟩ ∈ ex_WS := ex_mem (List.mem_append_right _ (List.mem_of_getElem? (i := 911) (by decide +kernel))) (by decide +kernel)
theorem w_912 : Cond.code ⟨"FrontCacheModel", "use", "(I)V"⟩ prog_13_method_20_code 5 none ∈ ex_WS := ex_mem (List.mem_append_right _ (List.mem_of_getElem? (i := 912) (by decide +kernel))) (by decide +kernel)
theorem w_913 : Cond.methodLink "FrontCacheModel" 164 ⟨"FrontCacheModel", "pass", "(IIIIII)V"⟩ ∈ ex_WS := ex_mem (List.mem_append_right _ (List.mem_of_getElem? (i := 913) (by decide +kernel))) (by decide +kernel)
theorem w_915 : Cond.instanceMethod ⟨"FrontCacheModel", "pass", "(IIIIII)V"⟩ ∈ ex_WS := ex_mem (List.mem_append_right _ (List.mem_of_getElem? (i := 915) (by decide +kernel))) (by decide +kernel)
theorem w_916 : Cond.code ⟨"FrontCacheModel", "pass", "(IIIIII)V"⟩ prog_13_method_30_code 11 none ∈ ex_WS := ex_mem (List.mem_append_right _ (List.mem_of_getElem? (i := 916) (by decide +kernel))) (by decide +kernel)
theorem w_917 : Cond.methodLink "FrontCacheModel" 168 ⟨"FrontCacheModel", "owner", "(I)I"⟩ ∈ ex_WS := ex_mem (List.mem_append_right _ (List.mem_of_getElem? (i := 917) (by decide +kernel))) (by decide +kernel)
theorem w_918 : Cond.methodLink "FrontCacheModel" 171 ⟨"FrontCacheModel", "begin", "(I)V"⟩ ∈ ex_WS := ex_mem (List.mem_append_right _ (List.mem_of_getElem? (i := 918) (by decide +kernel))) (by decide +kernel)
theorem w_920 : Cond.instanceMethod ⟨"FrontCacheModel", "begin", "(I)V"⟩ ∈ ex_WS := ex_mem (List.mem_append_right _ (List.mem_of_getElem? (i := 920) (by decide +kernel))) (by decide +kernel)
theorem w_921 : Cond.code ⟨"FrontCacheModel", "begin", "(I)V"⟩ prog_13_method_33_code 2 none ∈ ex_WS := ex_mem (List.mem_append_right _ (List.mem_of_getElem? (i := 921) (by decide +kernel))) (by decide +kernel)
theorem w_922 : Cond.methodLink "FrontCacheModel" 177 ⟨"FrontCacheModel", "sendFirst", "(I)V"⟩ ∈ ex_WS := ex_mem (List.mem_append_right _ (List.mem_of_getElem? (i := 922) (by decide +kernel))) (by decide +kernel)
theorem w_924 : Cond.instanceMethod ⟨"FrontCacheModel", "sendFirst", "(I)V"⟩ ∈ ex_WS := ex_mem (List.mem_append_right _ (List.mem_of_getElem? (i := 924) (by decide +kernel))) (by decide +kernel)
theorem w_925 : Cond.code ⟨"FrontCacheModel", "sendFirst", "(I)V"⟩ prog_13_method_34_code 3 none ∈ ex_WS := ex_mem (List.mem_append_right _ (List.mem_of_getElem? (i := 925) (by decide +kernel))) (by decide +kernel)
theorem w_926 : Cond.methodLink "FrontCacheModel" 180 ⟨"FrontCacheModel", "blank", "(IIII)V"⟩ ∈ ex_WS := ex_mem (List.mem_append_right _ (List.mem_of_getElem? (i := 926) (by decide +kernel))) (by decide +kernel)
theorem w_928 : Cond.instanceMethod ⟨"FrontCacheModel", "blank", "(IIII)V"⟩ ∈ ex_WS := ex_mem (List.mem_append_right _ (List.mem_of_getElem? (i := 928) (by decide +kernel))) (by decide +kernel)
theorem w_929 : Cond.code ⟨"FrontCacheModel", "blank", "(IIII)V"⟩ prog_13_method_32_code 6 none ∈ ex_WS := ex_mem (List.mem_append_right _ (List.mem_of_getElem? (i := 929) (by decide +kernel))) (by decide +kernel)
theorem w_930 : Cond.methodLink "FrontCacheModel" 184 ⟨"FrontCacheModel", "send", "(I)V"⟩ ∈ ex_WS := ex_mem (List.mem_append_right _ (List.mem_of_getElem? (i := 930) (by decide +kernel))) (by decide +kernel)
theorem w_932 : Cond.instanceMethod ⟨"FrontCacheModel", "send", "(I)V"⟩ ∈ ex_WS := ex_mem (List.mem_append_right _ (List.mem_of_getElem? (i := 932) (by decide +kernel))) (by decide +kernel)
theorem w_933 : Cond.code ⟨"FrontCacheModel", "send", "(I)V"⟩ prog_13_method_31_code 3 none ∈ ex_WS := ex_mem (List.mem_append_right _ (List.mem_of_getElem? (i := 933) (by decide +kernel))) (by decide +kernel)
theorem w_934 : Cond.methodLink "FrontCacheLaw" 45 ⟨"FrontCacheModel", "put", "(II)I"⟩ ∈ ex_WS := ex_mem (List.mem_append_right _ (List.mem_of_getElem? (i := 934) (by decide +kernel))) (by decide +kernel)
theorem w_935 : Cond.instanceMethod ⟨"FrontCacheModel", "put", "(II)I"⟩ ∈ ex_WS := ex_mem (List.mem_append_right _ (List.mem_of_getElem? (i := 935) (by decide +kernel))) (by decide +kernel)
theorem w_936 : Cond.selects "FrontCacheModel" ⟨"FrontCacheModel", "put", "(II)I"⟩ ⟨"FrontCacheModel", "put", "(II)I"⟩ ∈ ex_WS := ex_mem (List.mem_append_right _ (List.mem_of_getElem? (i := 936) (by decide +kernel))) (by decide +kernel)
theorem w_937 : Cond.code ⟨"FrontCacheModel", "put", "(II)I"⟩ prog_13_method_28_code 4 (some FieldType.int) ∈ ex_WS := ex_mem (List.mem_append_right _ (List.mem_of_getElem? (i := 937) (by decide +kernel))) (by decide +kernel)
theorem w_938 : Cond.methodLink "FrontCacheLaw" 50 ⟨"FrontCacheModel", "delete", "(I)I"⟩ ∈ ex_WS := ex_mem (List.mem_append_right _ (List.mem_of_getElem? (i := 938) (by decide +kernel))) (by decide +kernel)
theorem w_939 : Cond.instanceMethod ⟨"FrontCacheModel", "delete", "(I)I"⟩ ∈ ex_WS := ex_mem (List.mem_append_right _ (List.mem_of_getElem? (i := 939) (by decide +kernel))) (by decide +kernel)
theorem w_940 : Cond.selects "FrontCacheModel" ⟨"FrontCacheModel", "delete", "(I)I"⟩ ⟨"FrontCacheModel", "delete", "(I)I"⟩ ∈ ex_WS := ex_mem (List.mem_append_right _ (List.mem_of_getElem? (i := 940) (by decide +kernel))) (by decide +kernel)
theorem w_941 : Cond.code ⟨"FrontCacheModel", "delete", "(I)I"⟩ prog_13_method_29_code 3 (some FieldType.int) ∈ ex_WS := ex_mem (List.mem_append_right _ (List.mem_of_getElem? (i := 941) (by decide +kernel))) (by decide +kernel)
theorem w_942 : Cond.methodLink "FrontCacheLaw" 67 ⟨"FrontCacheModel", "tick", "()I"⟩ ∈ ex_WS := ex_mem (List.mem_append_right _ (List.mem_of_getElem? (i := 942) (by decide +kernel))) (by decide +kernel)
theorem w_943 : Cond.instanceMethod ⟨"FrontCacheModel", "tick", "()I"⟩ ∈ ex_WS := ex_mem (List.mem_append_right _ (List.mem_of_getElem? (i := 943) (by decide +kernel))) (by decide +kernel)
theorem w_944 : Cond.selects "FrontCacheModel" ⟨"FrontCacheModel", "tick", "()I"⟩ ⟨"FrontCacheModel", "tick", "()I"⟩ ∈ ex_WS := ex_mem (List.mem_append_right _ (List.mem_of_getElem? (i := 944) (by decide +kernel))) (by decide +kernel)
theorem w_945 : Cond.code ⟨"FrontCacheModel", "tick", "()I"⟩ prog_13_method_37_code 3 (some FieldType.int) ∈ ex_WS := ex_mem (List.mem_append_right _ (List.mem_of_getElem? (i := 945) (by decide +kernel))) (by decide +kernel)
theorem w_946 : Cond.methodLink "FrontCacheModel" 190 ⟨"FrontCacheModel", "giveUp", "(I)V"⟩ ∈ ex_WS := ex_mem (List.mem_append_right _ (List.mem_of_getElem? (i := 946) (by decide +kernel))) (by decide +kernel)
theorem w_948 : Cond.instanceMethod ⟨"FrontCacheModel", "giveUp", "(I)V"⟩ ∈ ex_WS := ex_mem (List.mem_append_right _ (List.mem_of_getElem? (i := 948) (by decide +kernel))) (by decide +kernel)
theorem w_949 : Cond.code ⟨"FrontCacheModel", "giveUp", "(I)V"⟩ prog_13_method_36_code 2 none ∈ ex_WS := ex_mem (List.mem_append_right _ (List.mem_of_getElem? (i := 949) (by decide +kernel))) (by decide +kernel)
theorem w_950 : Cond.methodLink "FrontCacheModel" 187 ⟨"FrontCacheModel", "shift", "(I)V"⟩ ∈ ex_WS := ex_mem (List.mem_append_right _ (List.mem_of_getElem? (i := 950) (by decide +kernel))) (by decide +kernel)
theorem w_952 : Cond.instanceMethod ⟨"FrontCacheModel", "shift", "(I)V"⟩ ∈ ex_WS := ex_mem (List.mem_append_right _ (List.mem_of_getElem? (i := 952) (by decide +kernel))) (by decide +kernel)
theorem w_953 : Cond.code ⟨"FrontCacheModel", "shift", "(I)V"⟩ prog_13_method_35_code 3 none ∈ ex_WS := ex_mem (List.mem_append_right _ (List.mem_of_getElem? (i := 953) (by decide +kernel))) (by decide +kernel)
theorem w_954 : Cond.methodLink "FrontCacheLaw" 54 ⟨"FrontCacheModel", "deliver", "(I)Z"⟩ ∈ ex_WS := ex_mem (List.mem_append_right _ (List.mem_of_getElem? (i := 954) (by decide +kernel))) (by decide +kernel)
theorem w_955 : Cond.instanceMethod ⟨"FrontCacheModel", "deliver", "(I)Z"⟩ ∈ ex_WS := ex_mem (List.mem_append_right _ (List.mem_of_getElem? (i := 955) (by decide +kernel))) (by decide +kernel)
theorem w_956 : Cond.selects "FrontCacheModel" ⟨"FrontCacheModel", "deliver", "(I)Z"⟩ ⟨"FrontCacheModel", "deliver", "(I)Z"⟩ ∈ ex_WS := ex_mem (List.mem_append_right _ (List.mem_of_getElem? (i := 956) (by decide +kernel))) (by decide +kernel)
theorem w_957 : Cond.code ⟨"FrontCacheModel", "deliver", "(I)Z"⟩ prog_13_method_40_code 3 (some FieldType.boolean) ∈ ex_WS := ex_mem (List.mem_append_right _ (List.mem_of_getElem? (i := 957) (by decide +kernel))) (by decide +kernel)
theorem w_958 : Cond.methodLink "FrontCacheModel" 193 ⟨"FrontCacheModel", "flies", "(I)Z"⟩ ∈ ex_WS := ex_mem (List.mem_append_right _ (List.mem_of_getElem? (i := 958) (by decide +kernel))) (by decide +kernel)
theorem w_960 : Cond.instanceMethod ⟨"FrontCacheModel", "flies", "(I)Z"⟩ ∈ ex_WS := ex_mem (List.mem_append_right _ (List.mem_of_getElem? (i := 960) (by decide +kernel))) (by decide +kernel)
theorem w_961 : Cond.code ⟨"FrontCacheModel", "flies", "(I)Z"⟩ prog_13_method_39_code 2 (some FieldType.boolean) ∈ ex_WS := ex_mem (List.mem_append_right _ (List.mem_of_getElem? (i := 961) (by decide +kernel))) (by decide +kernel)
theorem w_962 : Cond.methodLink "FrontCacheModel" 196 ⟨"FrontCacheModel", "out", "(I)V"⟩ ∈ ex_WS := ex_mem (List.mem_append_right _ (List.mem_of_getElem? (i := 962) (by decide +kernel))) (by decide +kernel)
theorem w_964 : Cond.instanceMethod ⟨"FrontCacheModel", "out", "(I)V"⟩ ∈ ex_WS := ex_mem (List.mem_append_right _ (List.mem_of_getElem? (i := 964) (by decide +kernel))) (by decide +kernel)
theorem w_965 : Cond.code ⟨"FrontCacheModel", "out", "(I)V"⟩ prog_13_method_38_code 3 none ∈ ex_WS := ex_mem (List.mem_append_right _ (List.mem_of_getElem? (i := 965) (by decide +kernel))) (by decide +kernel)
theorem w_966 : Cond.methodLink "FrontCacheModel" 199 ⟨"FrontCacheModel", "atOrigin", "(I)V"⟩ ∈ ex_WS := ex_mem (List.mem_append_right _ (List.mem_of_getElem? (i := 966) (by decide +kernel))) (by decide +kernel)
theorem w_968 : Cond.instanceMethod ⟨"FrontCacheModel", "atOrigin", "(I)V"⟩ ∈ ex_WS := ex_mem (List.mem_append_right _ (List.mem_of_getElem? (i := 968) (by decide +kernel))) (by decide +kernel)
theorem w_969 : Cond.code ⟨"FrontCacheModel", "atOrigin", "(I)V"⟩ prog_13_method_42_code 5 none ∈ ex_WS := ex_mem (List.mem_append_right _ (List.mem_of_getElem? (i := 969) (by decide +kernel))) (by decide +kernel)
theorem w_970 : Cond.methodLink "FrontCacheModel" 208 ⟨"FrontCacheModel", "work", "(II)V"⟩ ∈ ex_WS := ex_mem (List.mem_append_right _ (List.mem_of_getElem? (i := 970) (by decide +kernel))) (by decide +kernel)
theorem w_972 : Cond.instanceMethod ⟨"FrontCacheModel", "work", "(II)V"⟩ ∈ ex_WS := ex_mem (List.mem_append_right _ (List.mem_of_getElem? (i := 972) (by decide +kernel))) (by decide +kernel)
theorem w_973 : Cond.code ⟨"FrontCacheModel", "work", "(II)V"⟩ prog_13_method_43_code 8 none ∈ ex_WS := ex_mem (List.mem_append_right _ (List.mem_of_getElem? (i := 973) (by decide +kernel))) (by decide +kernel)
theorem w_974 : Cond.methodLink "FrontCacheModel" 202 ⟨"FrontCacheModel", "probed", "(I)V"⟩ ∈ ex_WS := ex_mem (List.mem_append_right _ (List.mem_of_getElem? (i := 974) (by decide +kernel))) (by decide +kernel)
theorem w_976 : Cond.instanceMethod ⟨"FrontCacheModel", "probed", "(I)V"⟩ ∈ ex_WS := ex_mem (List.mem_append_right _ (List.mem_of_getElem? (i := 976) (by decide +kernel))) (by decide +kernel)
theorem w_977 : Cond.code ⟨"FrontCacheModel", "probed", "(I)V"⟩ prog_13_method_41_code 2 none ∈ ex_WS := ex_mem (List.mem_append_right _ (List.mem_of_getElem? (i := 977) (by decide +kernel))) (by decide +kernel)
theorem w_978 : Cond.methodLink "FrontCacheModel" 205 ⟨"FrontCacheModel", "answered", "(I)V"⟩ ∈ ex_WS := ex_mem (List.mem_append_right _ (List.mem_of_getElem? (i := 978) (by decide +kernel))) (by decide +kernel)
theorem w_980 : Cond.instanceMethod ⟨"FrontCacheModel", "answered", "(I)V"⟩ ∈ ex_WS := ex_mem (List.mem_append_right _ (List.mem_of_getElem? (i := 980) (by decide +kernel))) (by decide +kernel)
theorem w_981 : Cond.code ⟨"FrontCacheModel", "answered", "(I)V"⟩ prog_13_method_44_code 10 none ∈ ex_WS := ex_mem (List.mem_append_right _ (List.mem_of_getElem? (i := 981) (by decide +kernel))) (by decide +kernel)
theorem w_982 : Cond.methodLink "FrontCacheModel" 212 ⟨"FrontCacheModel", "storable", "(II)Z"⟩ ∈ ex_WS := ex_mem (List.mem_append_right _ (List.mem_of_getElem? (i := 982) (by decide +kernel))) (by decide +kernel)
theorem w_983 : Cond.static ⟨"FrontCacheModel", "storable", "(II)Z"⟩ ∈ ex_WS := ex_mem (List.mem_append_right _ (List.mem_of_getElem? (i := 983) (by decide +kernel))) (by decide +kernel)
theorem w_984 : Cond.code ⟨"FrontCacheModel", "storable", "(II)Z"⟩ prog_13_method_6_code 2 (some FieldType.boolean) ∈ ex_WS := ex_mem (List.mem_append_right _ (List.mem_of_getElem? (i := 984) (by decide +kernel))) (by decide +kernel)
theorem w_985 : Cond.methodLink "FrontCacheModel" 216 ⟨"FrontCacheModel", "store", "(II)V"⟩ ∈ ex_WS := ex_mem (List.mem_append_right _ (List.mem_of_getElem? (i := 985) (by decide +kernel))) (by decide +kernel)
theorem w_987 : Cond.instanceMethod ⟨"FrontCacheModel", "store", "(II)V"⟩ ∈ ex_WS := ex_mem (List.mem_append_right _ (List.mem_of_getElem? (i := 987) (by decide +kernel))) (by decide +kernel)
theorem w_988 : Cond.code ⟨"FrontCacheModel", "store", "(II)V"⟩ prog_13_method_23_code 6 none ∈ ex_WS := ex_mem (List.mem_append_right _ (List.mem_of_getElem? (i := 988) (by decide +kernel))) (by decide +kernel)
theorem w_989 : Cond.methodLink "FrontCacheModel" 127 ⟨"FrontCacheModel", "drop", "(IIZ)V"⟩ ∈ ex_WS := ex_mem (List.mem_append_right _ (List.mem_of_getElem? (i := 989) (by decide +kernel))) (by decide +kernel)
theorem w_991 : Cond.instanceMethod ⟨"FrontCacheModel", "drop", "(IIZ)V"⟩ ∈ ex_WS := ex_mem (List.mem_append_right _ (List.mem_of_getElem? (i := 991) (by decide +kernel))) (by decide +kernel)
theorem w_992 : Cond.code ⟨"FrontCacheModel", "drop", "(IIZ)V"⟩ prog_13_method_21_code 5 none ∈ ex_WS := ex_mem (List.mem_append_right _ (List.mem_of_getElem? (i := 992) (by decide +kernel))) (by decide +kernel)
theorem w_993 : Cond.methodLink "FrontCacheModel" 123 ⟨"FrontCacheModel", "takeAway", "(I)V"⟩ ∈ ex_WS := ex_mem (List.mem_append_right _ (List.mem_of_getElem? (i := 993) (by decide +kernel))) (by decide +kernel)
theorem w_995 : Cond.instanceMethod ⟨"FrontCacheModel", "takeAway", "(I)V"⟩ ∈ ex_WS := ex_mem (List.mem_append_right _ (List.mem_of_getElem? (i := 995) (by decide +kernel))) (by decide +kernel)
theorem w_996 : Cond.code ⟨"FrontCacheModel", "takeAway", "(I)V"⟩ prog_13_method_19_code 3 none ∈ ex_WS := ex_mem (List.mem_append_right _ (List.mem_of_getElem? (i := 996) (by decide +kernel))) (by decide +kernel)
theorem w_997 : Cond.methodLink "FrontCacheModel" 131 ⟨"FrontCacheModel", "filled", "()I"⟩ ∈ ex_WS := ex_mem (List.mem_append_right _ (List.mem_of_getElem? (i := 997) (by decide +kernel))) (by decide +kernel)
theorem w_999 : Cond.instanceMethod ⟨"FrontCacheModel", "filled", "()I"⟩ ∈ ex_WS := ex_mem (List.mem_append_right _ (List.mem_of_getElem? (i := 999) (by decide +kernel))) (by decide +kernel)
theorem w_1000 : Cond.code ⟨"FrontCacheModel", "filled", "()I"⟩ prog_13_method_22_code 3 (some FieldType.int) ∈ ex_WS := ex_mem (List.mem_append_right _ (List.mem_of_getElem? (i := 1000) (by decide +kernel))) (by decide +kernel)
theorem w_1001 : Cond.methodLink "FrontCacheModel" 219 ⟨"FrontCacheModel", "byName", "(I)I"⟩ ∈ ex_WS := ex_mem (List.mem_append_right _ (List.mem_of_getElem? (i := 1001) (by decide +kernel))) (by decide +kernel)
theorem w_1003 : Cond.instanceMethod ⟨"FrontCacheModel", "byName", "(I)I"⟩ ∈ ex_WS := ex_mem (List.mem_append_right _ (List.mem_of_getElem? (i := 1003) (by decide +kernel))) (by decide +kernel)
theorem w_1004 : Cond.code ⟨"FrontCacheModel", "byName", "(I)I"⟩ prog_13_method_18_code 3 (some FieldType.int) ∈ ex_WS := ex_mem (List.mem_append_right _ (List.mem_of_getElem? (i := 1004) (by decide +kernel))) (by decide +kernel)
theorem w_1005 : Cond.methodLink "FrontCacheModel" 222 ⟨"FrontCacheModel", "confirm", "(IZ)V"⟩ ∈ ex_WS := ex_mem (List.mem_append_right _ (List.mem_of_getElem? (i := 1005) (by decide +kernel))) (by decide +kernel)
theorem w_1007 : Cond.instanceMethod ⟨"FrontCacheModel", "confirm", "(IZ)V"⟩ ∈ ex_WS := ex_mem (List.mem_append_right _ (List.mem_of_getElem? (i := 1007) (by decide +kernel))) (by decide +kernel)
theorem w_1008 : Cond.code ⟨"FrontCacheModel", "confirm", "(IZ)V"⟩ prog_13_method_45_code 4 none ∈ ex_WS := ex_mem (List.mem_append_right _ (List.mem_of_getElem? (i := 1008) (by decide +kernel))) (by decide +kernel)
theorem w_1009 : Cond.methodLink "FrontCacheLaw" 58 ⟨"FrontCacheModel", "lose", "(I)Z"⟩ ∈ ex_WS := ex_mem (List.mem_append_right _ (List.mem_of_getElem? (i := 1009) (by decide +kernel))) (by decide +kernel)
theorem w_1010 : Cond.instanceMethod ⟨"FrontCacheModel", "lose", "(I)Z"⟩ ∈ ex_WS := ex_mem (List.mem_append_right _ (List.mem_of_getElem? (i := 1010) (by decide +kernel))) (by decide +kernel)
theorem w_1011 : Cond.selects "FrontCacheModel" ⟨"FrontCacheModel", "lose", "(I)Z"⟩ ⟨"FrontCacheModel", "lose", "(I)Z"⟩ ∈ ex_WS := ex_mem (List.mem_append_right _ (List.mem_of_getElem? (i := 1011) (by decide +kernel))) (by decide +kernel)
theorem w_1012 : Cond.code ⟨"FrontCacheModel", "lose", "(I)Z"⟩ prog_13_method_46_code 2 (some FieldType.boolean) ∈ ex_WS := ex_mem (List.mem_append_right _ (List.mem_of_getElem? (i := 1012) (by decide +kernel))) (by decide +kernel)
theorem w_1013 : Cond.methodLink "FrontCacheLaw" 62 ⟨"FrontCacheModel", "copy", "(I)Z"⟩ ∈ ex_WS := ex_mem (List.mem_append_right _ (List.mem_of_getElem? (i := 1013) (by decide +kernel))) (by decide +kernel)
theorem w_1014 : Cond.instanceMethod ⟨"FrontCacheModel", "copy", "(I)Z"⟩ ∈ ex_WS := ex_mem (List.mem_append_right _ (List.mem_of_getElem? (i := 1014) (by decide +kernel))) (by decide +kernel)
theorem w_1015 : Cond.selects "FrontCacheModel" ⟨"FrontCacheModel", "copy", "(I)Z"⟩ ⟨"FrontCacheModel", "copy", "(I)Z"⟩ ∈ ex_WS := ex_mem (List.mem_append_right _ (List.mem_of_getElem? (i := 1015) (by decide +kernel))) (by decide +kernel)
theorem w_1016 : Cond.code ⟨"FrontCacheModel", "copy", "(I)Z"⟩ prog_13_method_47_code 2 (some FieldType.boolean) ∈ ex_WS := ex_mem (List.mem_append_right _ (List.mem_of_getElem? (i := 1016) (by decide +kernel))) (by decide +kernel)
theorem w_1017 : Cond.methodLink "FrontCacheLaw" 72 ⟨"FrontCacheModel", "power", "(IZ)Z"⟩ ∈ ex_WS := ex_mem (List.mem_append_right _ (List.mem_of_getElem? (i := 1017) (by decide +kernel))) (by decide +kernel)
theorem w_1018 : Cond.instanceMethod ⟨"FrontCacheModel", "power", "(IZ)Z"⟩ ∈ ex_WS := ex_mem (List.mem_append_right _ (List.mem_of_getElem? (i := 1018) (by decide +kernel))) (by decide +kernel)
theorem w_1019 : Cond.selects "FrontCacheModel" ⟨"FrontCacheModel", "power", "(IZ)Z"⟩ ⟨"FrontCacheModel", "power", "(IZ)Z"⟩ ∈ ex_WS := ex_mem (List.mem_append_right _ (List.mem_of_getElem? (i := 1019) (by decide +kernel))) (by decide +kernel)
theorem w_1020 : Cond.code ⟨"FrontCacheModel", "power", "(IZ)Z"⟩ prog_13_method_48_code 3 (some FieldType.boolean) ∈ ex_WS := ex_mem (List.mem_append_right _ (List.mem_of_getElem? (i := 1020) (by decide +kernel))) (by decide +kernel)
theorem w_1021 : Cond.methodLink "FrontCacheModel" 226 ⟨"FrontCacheModel", "isOrigin", "(I)Z"⟩ ∈ ex_WS := ex_mem (List.mem_append_right _ (List.mem_of_getElem? (i := 1021) (by decide +kernel))) (by decide +kernel)
theorem w_1022 : Cond.static ⟨"FrontCacheModel", "isOrigin", "(I)Z"⟩ ∈ ex_WS := ex_mem (List.mem_append_right _ (List.mem_of_getElem? (i := 1022) (by decide +kernel))) (by decide +kernel)
theorem w_1023 : Cond.code ⟨"FrontCacheModel", "isOrigin", "(I)Z"⟩ prog_13_method_8_code 1 (some FieldType.boolean) ∈ ex_WS := ex_mem (List.mem_append_right _ (List.mem_of_getElem? (i := 1023) (by decide +kernel))) (by decide +kernel)
theorem w_1024 : Cond.methodLink "FrontCacheLaw" 76 ⟨"FrontCacheModel", "answer", "(II)I"⟩ ∈ ex_WS := ex_mem (List.mem_append_right _ (List.mem_of_getElem? (i := 1024) (by decide +kernel))) (by decide +kernel)
theorem w_1025 : Cond.instanceMethod ⟨"FrontCacheModel", "answer", "(II)I"⟩ ∈ ex_WS := ex_mem (List.mem_append_right _ (List.mem_of_getElem? (i := 1025) (by decide +kernel))) (by decide +kernel)
theorem w_1026 : Cond.selects "FrontCacheModel" ⟨"FrontCacheModel", "answer", "(II)I"⟩ ⟨"FrontCacheModel", "answer", "(II)I"⟩ ∈ ex_WS := ex_mem (List.mem_append_right _ (List.mem_of_getElem? (i := 1026) (by decide +kernel))) (by decide +kernel)
theorem w_1027 : Cond.code ⟨"FrontCacheModel", "answer", "(II)I"⟩ prog_13_method_49_code 4 (some FieldType.int) ∈ ex_WS := ex_mem (List.mem_append_right _ (List.mem_of_getElem? (i := 1027) (by decide +kernel))) (by decide +kernel)
theorem w_1028 : Cond.methodLink "FrontCacheLaw" 80 ⟨"FrontCacheModel", "flights", "()I"⟩ ∈ ex_WS := ex_mem (List.mem_append_right _ (List.mem_of_getElem? (i := 1028) (by decide +kernel))) (by decide +kernel)
theorem w_1029 : Cond.instanceMethod ⟨"FrontCacheModel", "flights", "()I"⟩ ∈ ex_WS := ex_mem (List.mem_append_right _ (List.mem_of_getElem? (i := 1029) (by decide +kernel))) (by decide +kernel)
theorem w_1030 : Cond.selects "FrontCacheModel" ⟨"FrontCacheModel", "flights", "()I"⟩ ⟨"FrontCacheModel", "flights", "()I"⟩ ∈ ex_WS := ex_mem (List.mem_append_right _ (List.mem_of_getElem? (i := 1030) (by decide +kernel))) (by decide +kernel)
theorem w_1031 : Cond.code ⟨"FrontCacheModel", "flights", "()I"⟩ prog_13_method_50_code 1 (some FieldType.int) ∈ ex_WS := ex_mem (List.mem_append_right _ (List.mem_of_getElem? (i := 1031) (by decide +kernel))) (by decide +kernel)
theorem w_1032 : Cond.methodLink "FrontCacheLaw" 84 ⟨"FrontCacheModel", "flight", "(II)I"⟩ ∈ ex_WS := ex_mem (List.mem_append_right _ (List.mem_of_getElem? (i := 1032) (by decide +kernel))) (by decide +kernel)
theorem w_1033 : Cond.instanceMethod ⟨"FrontCacheModel", "flight", "(II)I"⟩ ∈ ex_WS := ex_mem (List.mem_append_right _ (List.mem_of_getElem? (i := 1033) (by decide +kernel))) (by decide +kernel)
theorem w_1034 : Cond.selects "FrontCacheModel" ⟨"FrontCacheModel", "flight", "(II)I"⟩ ⟨"FrontCacheModel", "flight", "(II)I"⟩ ∈ ex_WS := ex_mem (List.mem_append_right _ (List.mem_of_getElem? (i := 1034) (by decide +kernel))) (by decide +kernel)
theorem w_1035 : Cond.code ⟨"FrontCacheModel", "flight", "(II)I"⟩ prog_13_method_51_code 4 (some FieldType.int) ∈ ex_WS := ex_mem (List.mem_append_right _ (List.mem_of_getElem? (i := 1035) (by decide +kernel))) (by decide +kernel)
theorem w_1036 : Cond.methodLink "FrontCacheLaw" 88 ⟨"FrontCacheModel", "entries", "()I"⟩ ∈ ex_WS := ex_mem (List.mem_append_right _ (List.mem_of_getElem? (i := 1036) (by decide +kernel))) (by decide +kernel)
theorem w_1037 : Cond.instanceMethod ⟨"FrontCacheModel", "entries", "()I"⟩ ∈ ex_WS := ex_mem (List.mem_append_right _ (List.mem_of_getElem? (i := 1037) (by decide +kernel))) (by decide +kernel)
theorem w_1038 : Cond.selects "FrontCacheModel" ⟨"FrontCacheModel", "entries", "()I"⟩ ⟨"FrontCacheModel", "entries", "()I"⟩ ∈ ex_WS := ex_mem (List.mem_append_right _ (List.mem_of_getElem? (i := 1038) (by decide +kernel))) (by decide +kernel)
theorem w_1039 : Cond.code ⟨"FrontCacheModel", "entries", "()I"⟩ prog_13_method_52_code 1 (some FieldType.int) ∈ ex_WS := ex_mem (List.mem_append_right _ (List.mem_of_getElem? (i := 1039) (by decide +kernel))) (by decide +kernel)
theorem w_1040 : Cond.methodLink "FrontCacheLaw" 92 ⟨"FrontCacheModel", "entry", "(II)I"⟩ ∈ ex_WS := ex_mem (List.mem_append_right _ (List.mem_of_getElem? (i := 1040) (by decide +kernel))) (by decide +kernel)
theorem w_1041 : Cond.instanceMethod ⟨"FrontCacheModel", "entry", "(II)I"⟩ ∈ ex_WS := ex_mem (List.mem_append_right _ (List.mem_of_getElem? (i := 1041) (by decide +kernel))) (by decide +kernel)
theorem w_1042 : Cond.selects "FrontCacheModel" ⟨"FrontCacheModel", "entry", "(II)I"⟩ ⟨"FrontCacheModel", "entry", "(II)I"⟩ ∈ ex_WS := ex_mem (List.mem_append_right _ (List.mem_of_getElem? (i := 1042) (by decide +kernel))) (by decide +kernel)
theorem w_1043 : Cond.code ⟨"FrontCacheModel", "entry", "(II)I"⟩ prog_13_method_53_code 4 (some FieldType.int) ∈ ex_WS := ex_mem (List.mem_append_right _ (List.mem_of_getElem? (i := 1043) (by decide +kernel))) (by decide +kernel)
theorem w_1044 : Cond.methodLink "FrontCacheLaw" 100 ⟨"FrontCacheModel", "waiting", "(I)I"⟩ ∈ ex_WS := ex_mem (List.mem_append_right _ (List.mem_of_getElem? (i := 1044) (by decide +kernel))) (by decide +kernel)
theorem w_1045 : Cond.instanceMethod ⟨"FrontCacheModel", "waiting", "(I)I"⟩ ∈ ex_WS := ex_mem (List.mem_append_right _ (List.mem_of_getElem? (i := 1045) (by decide +kernel))) (by decide +kernel)
theorem w_1046 : Cond.selects "FrontCacheModel" ⟨"FrontCacheModel", "waiting", "(I)I"⟩ ⟨"FrontCacheModel", "waiting", "(I)I"⟩ ∈ ex_WS := ex_mem (List.mem_append_right _ (List.mem_of_getElem? (i := 1046) (by decide +kernel))) (by decide +kernel)
theorem w_1047 : Cond.code ⟨"FrontCacheModel", "waiting", "(I)I"⟩ prog_13_method_54_code 2 (some FieldType.int) ∈ ex_WS := ex_mem (List.mem_append_right _ (List.mem_of_getElem? (i := 1047) (by decide +kernel))) (by decide +kernel)
theorem w_1048 : Cond.fieldLink "java/lang/String" 9 "java/lang/String" "value" "[B" ∈ ex_WS := ex_mem (List.mem_append_right _ (List.mem_of_getElem? (i := 1048) (by decide +kernel))) (by decide +kernel)
theorem w_1049 : Cond.fieldLink "java/lang/String" 15 "java/lang/String" "coder" "B" ∈ ex_WS := ex_mem (List.mem_append_right _ (List.mem_of_getElem? (i := 1049) (by decide +kernel))) (by decide +kernel)
theorem ws_0 : Cond.selects "FrontCache$Draft" ⟨"FrontCache$Draft", "readElement", "(LFrontCache$Control;II)V"⟩ ⟨"FrontCache$Draft", "readElement", "(LFrontCache$Control;II)V"⟩ ∈ ex_WS := ex_mem (List.mem_append_left _ (List.mem_of_getElem? (i := 0) (by decide +kernel))) (by decide +kernel)
theorem ws_1 : Cond.selects "FrontCache$Draft" ⟨"FrontCache$Draft", "numberFrom", "(II)I"⟩ ⟨"FrontCache$Draft", "numberFrom", "(II)I"⟩ ∈ ex_WS := ex_mem (List.mem_append_left _ (List.mem_of_getElem? (i := 1) (by decide +kernel))) (by decide +kernel)
theorem ws_2 : Cond.selects "FrontCache$Draft" ⟨"FrontCache$Draft", "directiveAt", "(II)I"⟩ ⟨"FrontCache$Draft", "directiveAt", "(II)I"⟩ ∈ ex_WS := ex_mem (List.mem_append_left _ (List.mem_of_getElem? (i := 2) (by decide +kernel))) (by decide +kernel)
theorem ws_3 : Cond.selects "FrontCache$Draft" ⟨"FrontCache$Draft", "stands", "(Ljava/lang/String;II)Z"⟩ ⟨"FrontCache$Draft", "stands", "(Ljava/lang/String;II)Z"⟩ ∈ ex_WS := ex_mem (List.mem_append_left _ (List.mem_of_getElem? (i := 3) (by decide +kernel))) (by decide +kernel)
theorem ws_4 : Cond.selects "FrontCache" ⟨"FrontCache", "renew", "(IIZLFrontCache$Control;)I"⟩ ⟨"FrontCache", "renew", "(IIZLFrontCache$Control;)I"⟩ ∈ ex_WS := ex_mem (List.mem_append_left _ (List.mem_of_getElem? (i := 4) (by decide +kernel))) (by decide +kernel)
theorem ws_5 : Cond.selects "FrontCache" ⟨"FrontCache", "nextRequest", "()I"⟩ ⟨"FrontCache", "nextRequest", "()I"⟩ ∈ ex_WS := ex_mem (List.mem_append_left _ (List.mem_of_getElem? (i := 5) (by decide +kernel))) (by decide +kernel)
theorem ws_6 : Cond.selects "FrontCache" ⟨"FrontCache", "keepRequest", "(LFrontCache$Request;)V"⟩ ⟨"FrontCache", "keepRequest", "(LFrontCache$Request;)V"⟩ ∈ ex_WS := ex_mem (List.mem_append_left _ (List.mem_of_getElem? (i := 6) (by decide +kernel))) (by decide +kernel)
theorem ws_7 : Cond.selects "FrontCache" ⟨"FrontCache", "dealWithGet", "(LFrontCache$Request;)V"⟩ ⟨"FrontCache", "dealWithGet", "(LFrontCache$Request;)V"⟩ ∈ ex_WS := ex_mem (List.mem_append_left _ (List.mem_of_getElem? (i := 7) (by decide +kernel))) (by decide +kernel)
theorem ws_8 : Cond.selects "FrontCache$Store" ⟨"FrontCache$Store", "placeOf", "(LFrontCache$Entry;)I"⟩ ⟨"FrontCache$Store", "placeOf", "(LFrontCache$Entry;)I"⟩ ∈ ex_WS := ex_mem (List.mem_append_left _ (List.mem_of_getElem? (i := 8) (by decide +kernel))) (by decide +kernel)
theorem ws_9 : Cond.selects "FrontCache$Store" ⟨"FrontCache$Store", "removeAt", "(I)V"⟩ ⟨"FrontCache$Store", "removeAt", "(I)V"⟩ ∈ ex_WS := ex_mem (List.mem_append_left _ (List.mem_of_getElem? (i := 9) (by decide +kernel))) (by decide +kernel)
theorem ws_10 : Cond.selects "FrontCache$Store" ⟨"FrontCache$Store", "append", "(LFrontCache$Entry;)V"⟩ ⟨"FrontCache$Store", "append", "(LFrontCache$Entry;)V"⟩ ∈ ex_WS := ex_mem (List.mem_append_left _ (List.mem_of_getElem? (i := 10) (by decide +kernel))) (by decide +kernel)
theorem ws_11 : Cond.selects "FrontCache" ⟨"FrontCache", "passOn", "(LFrontCache$Request;)V"⟩ ⟨"FrontCache", "passOn", "(LFrontCache$Request;)V"⟩ ∈ ex_WS := ex_mem (List.mem_append_left _ (List.mem_of_getElem? (i := 11) (by decide +kernel))) (by decide +kernel)
theorem ws_12 : Cond.selects "FrontCache" ⟨"FrontCache", "makeChange", "(III)I"⟩ ⟨"FrontCache", "makeChange", "(III)I"⟩ ∈ ex_WS := ex_mem (List.mem_append_left _ (List.mem_of_getElem? (i := 12) (by decide +kernel))) (by decide +kernel)
theorem ws_13 : Cond.selects "FrontCache" ⟨"FrontCache", "comeToFront", "(LFrontCache$Message;)V"⟩ ⟨"FrontCache", "comeToFront", "(LFrontCache$Message;)V"⟩ ∈ ex_WS := ex_mem (List.mem_append_left _ (List.mem_of_getElem? (i := 13) (by decide +kernel))) (by decide +kernel)
theorem ws_14 : Cond.selects "FrontCache$Connection" ⟨"FrontCache$Connection", "takeFirst", "()LFrontCache$Request;"⟩ ⟨"FrontCache$Connection", "takeFirst", "()LFrontCache$Request;"⟩ ∈ ex_WS := ex_mem (List.mem_append_left _ (List.mem_of_getElem? (i := 14) (by decide +kernel))) (by decide +kernel)
theorem ws_15 : Cond.selects "FrontCache" ⟨"FrontCache", "settleFound", "(LFrontCache$Request;LFrontCache$Message;LFrontCache$Resource;)V"⟩ ⟨"FrontCache", "settleFound", "(LFrontCache$Request;LFrontCache$Message;LFrontCache$Resource;)V"⟩ ∈ ex_WS := ex_mem (List.mem_append_left _ (List.mem_of_getElem? (i := 15) (by decide +kernel))) (by decide +kernel)
theorem ws_16 : Cond.selects "FrontCache" ⟨"FrontCache", "settleOther", "(LFrontCache$Request;I)V"⟩ ⟨"FrontCache", "settleOther", "(LFrontCache$Request;I)V"⟩ ∈ ex_WS := ex_mem (List.mem_append_left _ (List.mem_of_getElem? (i := 16) (by decide +kernel))) (by decide +kernel)
theorem ws_17 : Cond.selects "FrontCache" ⟨"FrontCache", "comeToOrigin", "(LFrontCache$Message;)V"⟩ ⟨"FrontCache", "comeToOrigin", "(LFrontCache$Message;)V"⟩ ∈ ex_WS := ex_mem (List.mem_append_left _ (List.mem_of_getElem? (i := 17) (by decide +kernel))) (by decide +kernel)
theorem ws_18 : Cond.selects "FrontCache" ⟨"FrontCache", "answerOfOrigin", "(LFrontCache$Message;LFrontCache$Request;)LFrontCache$Message;"⟩ ⟨"FrontCache", "answerOfOrigin", "(LFrontCache$Message;LFrontCache$Request;)LFrontCache$Message;"⟩ ∈ ex_WS := ex_mem (List.mem_append_left _ (List.mem_of_getElem? (i := 18) (by decide +kernel))) (by decide +kernel)
theorem ws_19 : Cond.selects "FrontCache$Connection" ⟨"FrontCache$Connection", "giveUp", "(ILFrontCache$UnderWay;)V"⟩ ⟨"FrontCache$Connection", "giveUp", "(ILFrontCache$UnderWay;)V"⟩ ∈ ex_WS := ex_mem (List.mem_append_left _ (List.mem_of_getElem? (i := 19) (by decide +kernel))) (by decide +kernel)
theorem ws_20 : Cond.selects "FrontCache$Connection" ⟨"FrontCache$Connection", "markDown", "(I)V"⟩ ⟨"FrontCache$Connection", "markDown", "(I)V"⟩ ∈ ex_WS := ex_mem (List.mem_append_left _ (List.mem_of_getElem? (i := 20) (by decide +kernel))) (by decide +kernel)
theorem ws_21 : Cond.selects "FrontCacheModel" ⟨"FrontCacheModel", "parse", "()V"⟩ ⟨"FrontCacheModel", "parse", "()V"⟩ ∈ ex_WS := ex_mem (List.mem_append_left _ (List.mem_of_getElem? (i := 21) (by decide +kernel))) (by decide +kernel)
theorem ws_22 : Cond.selects "FrontCacheModel" ⟨"FrontCacheModel", "element", "(III)I"⟩ ⟨"FrontCacheModel", "element", "(III)I"⟩ ∈ ex_WS := ex_mem (List.mem_append_left _ (List.mem_of_getElem? (i := 22) (by decide +kernel))) (by decide +kernel)
theorem ws_23 : Cond.selects "FrontCacheModel" ⟨"FrontCacheModel", "is", "(ZIIII)Z"⟩ ⟨"FrontCacheModel", "is", "(ZIIII)Z"⟩ ∈ ex_WS := ex_mem (List.mem_append_left _ (List.mem_of_getElem? (i := 23) (by decide +kernel))) (by decide +kernel)
theorem ws_24 : Cond.selects "FrontCacheModel" ⟨"FrontCacheModel", "next", "()I"⟩ ⟨"FrontCacheModel", "next", "()I"⟩ ∈ ex_WS := ex_mem (List.mem_append_left _ (List.mem_of_getElem? (i := 24) (by decide +kernel))) (by decide +kernel)
theorem ws_25 : Cond.selects "FrontCacheModel" ⟨"FrontCacheModel", "reply", "(IIIII)V"⟩ ⟨"FrontCacheModel", "reply", "(IIIII)V"⟩ ∈ ex_WS := ex_mem (List.mem_append_left _ (List.mem_of_getElem? (i := 25) (by decide +kernel))) (by decide +kernel)
theorem ws_26 : Cond.selects "FrontCacheModel" ⟨"FrontCacheModel", "find", "(II)I"⟩ ⟨"FrontCacheModel", "find", "(II)I"⟩ ∈ ex_WS := ex_mem (List.mem_append_left _ (List.mem_of_getElem? (i := 26) (by decide +kernel))) (by decide +kernel)
theorem ws_27 : Cond.selects "FrontCacheModel" ⟨"FrontCacheModel", "matches", "(III)Z"⟩ ⟨"FrontCacheModel", "matches", "(III)Z"⟩ ∈ ex_WS := ex_mem (List.mem_append_left _ (List.mem_of_getElem? (i := 27) (by decide +kernel))) (by decide +kernel)
theorem ws_28 : Cond.selects "FrontCacheModel" ⟨"FrontCacheModel", "part", "(II)I"⟩ ⟨"FrontCacheModel", "part", "(II)I"⟩ ∈ ex_WS := ex_mem (List.mem_append_left _ (List.mem_of_getElem? (i := 28) (by decide +kernel))) (by decide +kernel)
theorem ws_29 : Cond.selects "FrontCacheModel" ⟨"FrontCacheModel", "hits", "(I)Z"⟩ ⟨"FrontCacheModel", "hits", "(I)Z"⟩ ∈ ex_WS := ex_mem (List.mem_append_left _ (List.mem_of_getElem? (i := 29) (by decide +kernel))) (by decide +kernel)
theorem ws_30 : Cond.selects "FrontCacheModel" ⟨"FrontCacheModel", "tagOf", "(I)I"⟩ ⟨"FrontCacheModel", "tagOf", "(I)I"⟩ ∈ ex_WS := ex_mem (List.mem_append_left _ (List.mem_of_getElem? (i := 30) (by decide +kernel))) (by decide +kernel)
theorem ws_31 : Cond.selects "FrontCacheModel" ⟨"FrontCacheModel", "use", "(I)V"⟩ ⟨"FrontCacheModel", "use", "(I)V"⟩ ∈ ex_WS := ex_mem (List.mem_append_left _ (List.mem_of_getElem? (i := 31) (by decide +kernel))) (by decide +kernel)
theorem ws_32 : Cond.selects "FrontCacheModel" ⟨"FrontCacheModel", "pass", "(IIIIII)V"⟩ ⟨"FrontCacheModel", "pass", "(IIIIII)V"⟩ ∈ ex_WS := ex_mem (List.mem_append_left _ (List.mem_of_getElem? (i := 32) (by decide +kernel))) (by decide +kernel)
theorem ws_33 : Cond.selects "FrontCacheModel" ⟨"FrontCacheModel", "begin", "(I)V"⟩ ⟨"FrontCacheModel", "begin", "(I)V"⟩ ∈ ex_WS := ex_mem (List.mem_append_left _ (List.mem_of_getElem? (i := 33) (by decide +kernel))) (by decide +kernel)
theorem ws_34 : Cond.selects "FrontCacheModel" ⟨"FrontCacheModel", "sendFirst", "(I)V"⟩ ⟨"FrontCacheModel", "sendFirst", "(I)V"⟩ ∈ ex_WS := ex_mem (List.mem_append_left _ (List.mem_of_getElem? (i := 34) (by decide +kernel))) (by decide +kernel)
theorem ws_35 : Cond.selects "FrontCacheModel" ⟨"FrontCacheModel", "blank", "(IIII)V"⟩ ⟨"FrontCacheModel", "blank", "(IIII)V"⟩ ∈ ex_WS := ex_mem (List.mem_append_left _ (List.mem_of_getElem? (i := 35) (by decide +kernel))) (by decide +kernel)
theorem ws_36 : Cond.selects "FrontCacheModel" ⟨"FrontCacheModel", "send", "(I)V"⟩ ⟨"FrontCacheModel", "send", "(I)V"⟩ ∈ ex_WS := ex_mem (List.mem_append_left _ (List.mem_of_getElem? (i := 36) (by decide +kernel))) (by decide +kernel)
theorem ws_37 : Cond.selects "FrontCacheModel" ⟨"FrontCacheModel", "giveUp", "(I)V"⟩ ⟨"FrontCacheModel", "giveUp", "(I)V"⟩ ∈ ex_WS := ex_mem (List.mem_append_left _ (List.mem_of_getElem? (i := 37) (by decide +kernel))) (by decide +kernel)
theorem ws_38 : Cond.selects "FrontCacheModel" ⟨"FrontCacheModel", "shift", "(I)V"⟩ ⟨"FrontCacheModel", "shift", "(I)V"⟩ ∈ ex_WS := ex_mem (List.mem_append_left _ (List.mem_of_getElem? (i := 38) (by decide +kernel))) (by decide +kernel)
theorem ws_39 : Cond.selects "FrontCacheModel" ⟨"FrontCacheModel", "flies", "(I)Z"⟩ ⟨"FrontCacheModel", "flies", "(I)Z"⟩ ∈ ex_WS := ex_mem (List.mem_append_left _ (List.mem_of_getElem? (i := 39) (by decide +kernel))) (by decide +kernel)
theorem ws_40 : Cond.selects "FrontCacheModel" ⟨"FrontCacheModel", "out", "(I)V"⟩ ⟨"FrontCacheModel", "out", "(I)V"⟩ ∈ ex_WS := ex_mem (List.mem_append_left _ (List.mem_of_getElem? (i := 40) (by decide +kernel))) (by decide +kernel)
theorem ws_41 : Cond.selects "FrontCacheModel" ⟨"FrontCacheModel", "atOrigin", "(I)V"⟩ ⟨"FrontCacheModel", "atOrigin", "(I)V"⟩ ∈ ex_WS := ex_mem (List.mem_append_left _ (List.mem_of_getElem? (i := 41) (by decide +kernel))) (by decide +kernel)
theorem ws_42 : Cond.selects "FrontCacheModel" ⟨"FrontCacheModel", "work", "(II)V"⟩ ⟨"FrontCacheModel", "work", "(II)V"⟩ ∈ ex_WS := ex_mem (List.mem_append_left _ (List.mem_of_getElem? (i := 42) (by decide +kernel))) (by decide +kernel)
theorem ws_43 : Cond.selects "FrontCacheModel" ⟨"FrontCacheModel", "probed", "(I)V"⟩ ⟨"FrontCacheModel", "probed", "(I)V"⟩ ∈ ex_WS := ex_mem (List.mem_append_left _ (List.mem_of_getElem? (i := 43) (by decide +kernel))) (by decide +kernel)
theorem ws_44 : Cond.selects "FrontCacheModel" ⟨"FrontCacheModel", "answered", "(I)V"⟩ ⟨"FrontCacheModel", "answered", "(I)V"⟩ ∈ ex_WS := ex_mem (List.mem_append_left _ (List.mem_of_getElem? (i := 44) (by decide +kernel))) (by decide +kernel)
theorem ws_45 : Cond.selects "FrontCacheModel" ⟨"FrontCacheModel", "store", "(II)V"⟩ ⟨"FrontCacheModel", "store", "(II)V"⟩ ∈ ex_WS := ex_mem (List.mem_append_left _ (List.mem_of_getElem? (i := 45) (by decide +kernel))) (by decide +kernel)
theorem ws_46 : Cond.selects "FrontCacheModel" ⟨"FrontCacheModel", "drop", "(IIZ)V"⟩ ⟨"FrontCacheModel", "drop", "(IIZ)V"⟩ ∈ ex_WS := ex_mem (List.mem_append_left _ (List.mem_of_getElem? (i := 46) (by decide +kernel))) (by decide +kernel)
theorem ws_47 : Cond.selects "FrontCacheModel" ⟨"FrontCacheModel", "takeAway", "(I)V"⟩ ⟨"FrontCacheModel", "takeAway", "(I)V"⟩ ∈ ex_WS := ex_mem (List.mem_append_left _ (List.mem_of_getElem? (i := 47) (by decide +kernel))) (by decide +kernel)
theorem ws_48 : Cond.selects "FrontCacheModel" ⟨"FrontCacheModel", "filled", "()I"⟩ ⟨"FrontCacheModel", "filled", "()I"⟩ ∈ ex_WS := ex_mem (List.mem_append_left _ (List.mem_of_getElem? (i := 48) (by decide +kernel))) (by decide +kernel)
theorem ws_49 : Cond.selects "FrontCacheModel" ⟨"FrontCacheModel", "byName", "(I)I"⟩ ⟨"FrontCacheModel", "byName", "(I)I"⟩ ∈ ex_WS := ex_mem (List.mem_append_left _ (List.mem_of_getElem? (i := 49) (by decide +kernel))) (by decide +kernel)
theorem ws_50 : Cond.selects "FrontCacheModel" ⟨"FrontCacheModel", "confirm", "(IZ)V"⟩ ⟨"FrontCacheModel", "confirm", "(IZ)V"⟩ ∈ ex_WS := ex_mem (List.mem_append_left _ (List.mem_of_getElem? (i := 50) (by decide +kernel))) (by decide +kernel)
theorem w_233 : Cond.laysFinal "FrontCache" "FrontCache" "draft" "LFrontCache$Draft;" ∈ ex_WS := ex_mem (List.mem_append_right _ (List.mem_of_getElem? (i := 233) (by decide +kernel))) (by decide +kernel)
theorem w_235 : Cond.laysFinal "FrontCache" "FrontCache" "store" "LFrontCache$Store;" ∈ ex_WS := ex_mem (List.mem_append_right _ (List.mem_of_getElem? (i := 235) (by decide +kernel))) (by decide +kernel)
theorem w_237 : Cond.laysFinal "FrontCache" "FrontCache" "underWay" "LFrontCache$UnderWay;" ∈ ex_WS := ex_mem (List.mem_append_right _ (List.mem_of_getElem? (i := 237) (by decide +kernel))) (by decide +kernel)
theorem w_239 : Cond.laysFinal "FrontCache" "FrontCache" "absent" "LFrontCache$Resource;" ∈ ex_WS := ex_mem (List.mem_append_right _ (List.mem_of_getElem? (i := 239) (by decide +kernel))) (by decide +kernel)
theorem w_241 : Cond.laysFinal "FrontCache" "FrontCache" "resources" "[LFrontCache$Resource;" ∈ ex_WS := ex_mem (List.mem_append_right _ (List.mem_of_getElem? (i := 241) (by decide +kernel))) (by decide +kernel)
theorem w_243 : Cond.laysFinal "FrontCache" "FrontCache" "origins" "[LFrontCache$Origin;" ∈ ex_WS := ex_mem (List.mem_append_right _ (List.mem_of_getElem? (i := 243) (by decide +kernel))) (by decide +kernel)
theorem w_245 : Cond.laysFinal "FrontCache" "FrontCache" "connections" "[LFrontCache$Connection;" ∈ ex_WS := ex_mem (List.mem_append_right _ (List.mem_of_getElem? (i := 245) (by decide +kernel))) (by decide +kernel)
theorem w_247 : Cond.laysFinal "FrontCache" "FrontCache" "latestRequests" "[LFrontCache$Request;" ∈ ex_WS := ex_mem (List.mem_append_right _ (List.mem_of_getElem? (i := 247) (by decide +kernel))) (by decide +kernel)
theorem w_249 : Cond.lays "FrontCache" "FrontCache" "time" "I" ∈ ex_WS := ex_mem (List.mem_append_right _ (List.mem_of_getElem? (i := 249) (by decide +kernel))) (by decide +kernel)
theorem w_251 : Cond.lays "FrontCache" "FrontCache" "lastVersion" "I" ∈ ex_WS := ex_mem (List.mem_append_right _ (List.mem_of_getElem? (i := 251) (by decide +kernel))) (by decide +kernel)
theorem w_253 : Cond.lays "FrontCache" "FrontCache" "lastRequest" "I" ∈ ex_WS := ex_mem (List.mem_append_right _ (List.mem_of_getElem? (i := 253) (by decide +kernel))) (by decide +kernel)
theorem inC_FC (c : Cond) : ∀ w ∈ u_ws R_FC T_FC 11, w ∈ c :: ex_WS := by
  intro w hw
  refine List.mem_cons_of_mem _ ?_
  obtain ⟨k, hk, rfl⟩ := List.mem_map.mp hw
  rw [List.mem_range] at hk
  rcases (by omega : k = 0 ∨ k = 1 ∨ k = 2 ∨ k = 3 ∨ k = 4 ∨ k = 5 ∨ k = 6 ∨ k = 7 ∨ k = 8 ∨ k = 9 ∨ k = 10) with rfl | rfl | rfl | rfl | rfl | rfl | rfl | rfl | rfl | rfl | rfl
  · exact w_233
  · exact w_235
  · exact w_237
  · exact w_239
  · exact w_241
  · exact w_243
  · exact w_245
  · exact w_247
  · exact w_249
  · exact w_251
  · exact w_253
theorem df_FC : ∀ k, k < 11 → defaultValue (ty_FC k) = if ex_it 0 k = true then Value.int 0 else va_rf none := by
  intro k hk
  rcases (by omega : k = 0 ∨ k = 1 ∨ k = 2 ∨ k = 3 ∨ k = 4 ∨ k = 5 ∨ k = 6 ∨ k = 7 ∨ k = 8 ∨ k = 9 ∨ k = 10) with rfl | rfl | rfl | rfl | rfl | rfl | rfl | rfl | rfl | rfl | rfl
  · rfl
  · rfl
  · rfl
  · rfl
  · rfl
  · rfl
  · rfl
  · rfl
  · rfl
  · rfl
  · rfl
theorem w_91 : Cond.laysFinal "FrontCache$Control" "FrontCache$Control" "numbers" "[I" ∈ ex_WS := ex_mem (List.mem_append_right _ (List.mem_of_getElem? (i := 91) (by decide +kernel))) (by decide +kernel)
theorem inC_Ctl (c : Cond) : ∀ w ∈ u_ws R_Ctl T_Ctl 1, w ∈ c :: ex_WS := by
  intro w hw
  refine List.mem_cons_of_mem _ ?_
  obtain ⟨k, hk, rfl⟩ := List.mem_map.mp hw
  rw [List.mem_range] at hk
  rcases (by omega : k = 0) with rfl
  · exact w_91
theorem df_Ctl : ∀ k, k < 1 → defaultValue (ty_Ctl k) = if ex_it 1 k = true then Value.int 0 else va_rf none := by
  intro k hk
  rcases (by omega : k = 0) with rfl
  · rfl
theorem w_35 : Cond.laysFinal "FrontCache$Draft" "FrontCache$Draft" "text" "[C" ∈ ex_WS := ex_mem (List.mem_append_right _ (List.mem_of_getElem? (i := 35) (by decide +kernel))) (by decide +kernel)
theorem w_37 : Cond.lays "FrontCache$Draft" "FrontCache$Draft" "length" "I" ∈ ex_WS := ex_mem (List.mem_append_right _ (List.mem_of_getElem? (i := 37) (by decide +kernel))) (by decide +kernel)
theorem inC_Drf (c : Cond) : ∀ w ∈ u_ws R_Drf T_Drf 2, w ∈ c :: ex_WS := by
  intro w hw
  refine List.mem_cons_of_mem _ ?_
  obtain ⟨k, hk, rfl⟩ := List.mem_map.mp hw
  rw [List.mem_range] at hk
  rcases (by omega : k = 0 ∨ k = 1) with rfl | rfl
  · exact w_35
  · exact w_37
theorem df_Drf : ∀ k, k < 2 → defaultValue (ty_Drf k) = if ex_it 2 k = true then Value.int 0 else va_rf none := by
  intro k hk
  rcases (by omega : k = 0 ∨ k = 1) with rfl | rfl
  · rfl
  · rfl
theorem w_111 : Cond.laysFinal "FrontCache$Resource" "FrontCache$Resource" "version" "I" ∈ ex_WS := ex_mem (List.mem_append_right _ (List.mem_of_getElem? (i := 111) (by decide +kernel))) (by decide +kernel)
theorem w_113 : Cond.laysFinal "FrontCache$Resource" "FrontCache$Resource" "size" "I" ∈ ex_WS := ex_mem (List.mem_append_right _ (List.mem_of_getElem? (i := 113) (by decide +kernel))) (by decide +kernel)
theorem w_115 : Cond.laysFinal "FrontCache$Resource" "FrontCache$Resource" "varies" "Z" ∈ ex_WS := ex_mem (List.mem_append_right _ (List.mem_of_getElem? (i := 115) (by decide +kernel))) (by decide +kernel)
theorem w_117 : Cond.laysFinal "FrontCache$Resource" "FrontCache$Resource" "control" "LFrontCache$Control;" ∈ ex_WS := ex_mem (List.mem_append_right _ (List.mem_of_getElem? (i := 117) (by decide +kernel))) (by decide +kernel)
theorem inC_Res (c : Cond) : ∀ w ∈ u_ws R_Res T_Res 4, w ∈ c :: ex_WS := by
  intro w hw
  refine List.mem_cons_of_mem _ ?_
  obtain ⟨k, hk, rfl⟩ := List.mem_map.mp hw
  rw [List.mem_range] at hk
  rcases (by omega : k = 0 ∨ k = 1 ∨ k = 2 ∨ k = 3) with rfl | rfl | rfl | rfl
  · exact w_111
  · exact w_113
  · exact w_115
  · exact w_117
theorem df_Res : ∀ k, k < 4 → defaultValue (ty_Res k) = if ex_it 3 k = true then Value.int 0 else va_rf none := by
  intro k hk
  rcases (by omega : k = 0 ∨ k = 1 ∨ k = 2 ∨ k = 3) with rfl | rfl | rfl | rfl
  · rfl
  · rfl
  · rfl
  · rfl
theorem w_613 : Cond.laysFinal "FrontCache$Entry" "FrontCache$Entry" "path" "I" ∈ ex_WS := ex_mem (List.mem_append_right _ (List.mem_of_getElem? (i := 613) (by decide +kernel))) (by decide +kernel)
theorem w_615 : Cond.laysFinal "FrontCache$Entry" "FrontCache$Entry" "variant" "I" ∈ ex_WS := ex_mem (List.mem_append_right _ (List.mem_of_getElem? (i := 615) (by decide +kernel))) (by decide +kernel)
theorem w_617 : Cond.laysFinal "FrontCache$Entry" "FrontCache$Entry" "resource" "LFrontCache$Resource;" ∈ ex_WS := ex_mem (List.mem_append_right _ (List.mem_of_getElem? (i := 617) (by decide +kernel))) (by decide +kernel)
theorem w_619 : Cond.laysFinal "FrontCache$Entry" "FrontCache$Entry" "tag" "I" ∈ ex_WS := ex_mem (List.mem_append_right _ (List.mem_of_getElem? (i := 619) (by decide +kernel))) (by decide +kernel)
theorem w_621 : Cond.lays "FrontCache$Entry" "FrontCache$Entry" "control" "LFrontCache$Control;" ∈ ex_WS := ex_mem (List.mem_append_right _ (List.mem_of_getElem? (i := 621) (by decide +kernel))) (by decide +kernel)
theorem w_623 : Cond.lays "FrontCache$Entry" "FrontCache$Entry" "date" "I" ∈ ex_WS := ex_mem (List.mem_append_right _ (List.mem_of_getElem? (i := 623) (by decide +kernel))) (by decide +kernel)
theorem inC_Ent (c : Cond) : ∀ w ∈ u_ws R_Ent T_Ent 6, w ∈ c :: ex_WS := by
  intro w hw
  refine List.mem_cons_of_mem _ ?_
  obtain ⟨k, hk, rfl⟩ := List.mem_map.mp hw
  rw [List.mem_range] at hk
  rcases (by omega : k = 0 ∨ k = 1 ∨ k = 2 ∨ k = 3 ∨ k = 4 ∨ k = 5) with rfl | rfl | rfl | rfl | rfl | rfl
  · exact w_613
  · exact w_615
  · exact w_617
  · exact w_619
  · exact w_621
  · exact w_623
theorem df_Ent : ∀ k, k < 6 → defaultValue (ty_Ent k) = if ex_it 4 k = true then Value.int 0 else va_rf none := by
  intro k hk
  rcases (by omega : k = 0 ∨ k = 1 ∨ k = 2 ∨ k = 3 ∨ k = 4 ∨ k = 5) with rfl | rfl | rfl | rfl | rfl | rfl
  · rfl
  · rfl
  · rfl
  · rfl
  · rfl
  · rfl
theorem w_54 : Cond.laysFinal "FrontCache$Store" "FrontCache$Store" "capacity" "I" ∈ ex_WS := ex_mem (List.mem_append_right _ (List.mem_of_getElem? (i := 54) (by decide +kernel))) (by decide +kernel)
theorem w_56 : Cond.laysFinal "FrontCache$Store" "FrontCache$Store" "rows" "[LFrontCache$Entry;" ∈ ex_WS := ex_mem (List.mem_append_right _ (List.mem_of_getElem? (i := 56) (by decide +kernel))) (by decide +kernel)
theorem w_58 : Cond.lays "FrontCache$Store" "FrontCache$Store" "filled" "I" ∈ ex_WS := ex_mem (List.mem_append_right _ (List.mem_of_getElem? (i := 58) (by decide +kernel))) (by decide +kernel)
theorem w_60 : Cond.lays "FrontCache$Store" "FrontCache$Store" "count" "I" ∈ ex_WS := ex_mem (List.mem_append_right _ (List.mem_of_getElem? (i := 60) (by decide +kernel))) (by decide +kernel)
theorem inC_Sto (c : Cond) : ∀ w ∈ u_ws R_Sto T_Sto 4, w ∈ c :: ex_WS := by
  intro w hw
  refine List.mem_cons_of_mem _ ?_
  obtain ⟨k, hk, rfl⟩ := List.mem_map.mp hw
  rw [List.mem_range] at hk
  rcases (by omega : k = 0 ∨ k = 1 ∨ k = 2 ∨ k = 3) with rfl | rfl | rfl | rfl
  · exact w_54
  · exact w_56
  · exact w_58
  · exact w_60
theorem df_Sto : ∀ k, k < 4 → defaultValue (ty_Sto k) = if ex_it 5 k = true then Value.int 0 else va_rf none := by
  intro k hk
  rcases (by omega : k = 0 ∨ k = 1 ∨ k = 2 ∨ k = 3) with rfl | rfl | rfl | rfl
  · rfl
  · rfl
  · rfl
  · rfl
theorem w_416 : Cond.laysFinal "FrontCache$Request" "FrontCache$Request" "number" "I" ∈ ex_WS := ex_mem (List.mem_append_right _ (List.mem_of_getElem? (i := 416) (by decide +kernel))) (by decide +kernel)
theorem w_418 : Cond.laysFinal "FrontCache$Request" "FrontCache$Request" "kind" "I" ∈ ex_WS := ex_mem (List.mem_append_right _ (List.mem_of_getElem? (i := 418) (by decide +kernel))) (by decide +kernel)
theorem w_420 : Cond.laysFinal "FrontCache$Request" "FrontCache$Request" "path" "I" ∈ ex_WS := ex_mem (List.mem_append_right _ (List.mem_of_getElem? (i := 420) (by decide +kernel))) (by decide +kernel)
theorem w_422 : Cond.laysFinal "FrontCache$Request" "FrontCache$Request" "variant" "I" ∈ ex_WS := ex_mem (List.mem_append_right _ (List.mem_of_getElem? (i := 422) (by decide +kernel))) (by decide +kernel)
theorem w_424 : Cond.laysFinal "FrontCache$Request" "FrontCache$Request" "size" "I" ∈ ex_WS := ex_mem (List.mem_append_right _ (List.mem_of_getElem? (i := 424) (by decide +kernel))) (by decide +kernel)
theorem w_426 : Cond.laysFinal "FrontCache$Request" "FrontCache$Request" "knownTag" "I" ∈ ex_WS := ex_mem (List.mem_append_right _ (List.mem_of_getElem? (i := 426) (by decide +kernel))) (by decide +kernel)
theorem w_428 : Cond.laysFinal "FrontCache$Request" "FrontCache$Request" "control" "LFrontCache$Control;" ∈ ex_WS := ex_mem (List.mem_append_right _ (List.mem_of_getElem? (i := 428) (by decide +kernel))) (by decide +kernel)
theorem w_430 : Cond.lays "FrontCache$Request" "FrontCache$Request" "toConfirm" "LFrontCache$Entry;" ∈ ex_WS := ex_mem (List.mem_append_right _ (List.mem_of_getElem? (i := 430) (by decide +kernel))) (by decide +kernel)
theorem w_432 : Cond.lays "FrontCache$Request" "FrontCache$Request" "status" "I" ∈ ex_WS := ex_mem (List.mem_append_right _ (List.mem_of_getElem? (i := 432) (by decide +kernel))) (by decide +kernel)
theorem w_434 : Cond.lays "FrontCache$Request" "FrontCache$Request" "answerTag" "I" ∈ ex_WS := ex_mem (List.mem_append_right _ (List.mem_of_getElem? (i := 434) (by decide +kernel))) (by decide +kernel)
theorem w_436 : Cond.lays "FrontCache$Request" "FrontCache$Request" "answerAge" "I" ∈ ex_WS := ex_mem (List.mem_append_right _ (List.mem_of_getElem? (i := 436) (by decide +kernel))) (by decide +kernel)
theorem w_438 : Cond.lays "FrontCache$Request" "FrontCache$Request" "way" "I" ∈ ex_WS := ex_mem (List.mem_append_right _ (List.mem_of_getElem? (i := 438) (by decide +kernel))) (by decide +kernel)
theorem inC_Req (c : Cond) : ∀ w ∈ u_ws R_Req T_Req 12, w ∈ c :: ex_WS := by
  intro w hw
  refine List.mem_cons_of_mem _ ?_
  obtain ⟨k, hk, rfl⟩ := List.mem_map.mp hw
  rw [List.mem_range] at hk
  rcases (by omega : k = 0 ∨ k = 1 ∨ k = 2 ∨ k = 3 ∨ k = 4 ∨ k = 5 ∨ k = 6 ∨ k = 7 ∨ k = 8 ∨ k = 9 ∨ k = 10 ∨ k = 11) with rfl | rfl | rfl | rfl | rfl | rfl | rfl | rfl | rfl | rfl | rfl | rfl
  · exact w_416
  · exact w_418
  · exact w_420
  · exact w_422
  · exact w_424
  · exact w_426
  · exact w_428
  · exact w_430
  · exact w_432
  · exact w_434
  · exact w_436
  · exact w_438
theorem df_Req : ∀ k, k < 12 → defaultValue (ty_Req k) = if ex_it 6 k = true then Value.int 0 else va_rf none := by
  intro k hk
  rcases (by omega : k = 0 ∨ k = 1 ∨ k = 2 ∨ k = 3 ∨ k = 4 ∨ k = 5 ∨ k = 6 ∨ k = 7 ∨ k = 8 ∨ k = 9 ∨ k = 10 ∨ k = 11) with rfl | rfl | rfl | rfl | rfl | rfl | rfl | rfl | rfl | rfl | rfl | rfl
  · rfl
  · rfl
  · rfl
  · rfl
  · rfl
  · rfl
  · rfl
  · rfl
  · rfl
  · rfl
  · rfl
  · rfl
theorem w_171 : Cond.laysFinal "FrontCache$Message" "FrontCache$Message" "origin" "I" ∈ ex_WS := ex_mem (List.mem_append_right _ (List.mem_of_getElem? (i := 171) (by decide +kernel))) (by decide +kernel)
theorem w_173 : Cond.laysFinal "FrontCache$Message" "FrontCache$Message" "isAnswer" "Z" ∈ ex_WS := ex_mem (List.mem_append_right _ (List.mem_of_getElem? (i := 173) (by decide +kernel))) (by decide +kernel)
theorem w_175 : Cond.laysFinal "FrontCache$Message" "FrontCache$Message" "number" "I" ∈ ex_WS := ex_mem (List.mem_append_right _ (List.mem_of_getElem? (i := 175) (by decide +kernel))) (by decide +kernel)
theorem w_177 : Cond.laysFinal "FrontCache$Message" "FrontCache$Message" "what" "I" ∈ ex_WS := ex_mem (List.mem_append_right _ (List.mem_of_getElem? (i := 177) (by decide +kernel))) (by decide +kernel)
theorem w_179 : Cond.laysFinal "FrontCache$Message" "FrontCache$Message" "tag" "I" ∈ ex_WS := ex_mem (List.mem_append_right _ (List.mem_of_getElem? (i := 179) (by decide +kernel))) (by decide +kernel)
theorem w_181 : Cond.laysFinal "FrontCache$Message" "FrontCache$Message" "request" "LFrontCache$Request;" ∈ ex_WS := ex_mem (List.mem_append_right _ (List.mem_of_getElem? (i := 181) (by decide +kernel))) (by decide +kernel)
theorem w_183 : Cond.laysFinal "FrontCache$Message" "FrontCache$Message" "resource" "LFrontCache$Resource;" ∈ ex_WS := ex_mem (List.mem_append_right _ (List.mem_of_getElem? (i := 183) (by decide +kernel))) (by decide +kernel)
theorem w_185 : Cond.laysFinal "FrontCache$Message" "FrontCache$Message" "date" "I" ∈ ex_WS := ex_mem (List.mem_append_right _ (List.mem_of_getElem? (i := 185) (by decide +kernel))) (by decide +kernel)
theorem inC_Msg (c : Cond) : ∀ w ∈ u_ws R_Msg T_Msg 8, w ∈ c :: ex_WS := by
  intro w hw
  refine List.mem_cons_of_mem _ ?_
  obtain ⟨k, hk, rfl⟩ := List.mem_map.mp hw
  rw [List.mem_range] at hk
  rcases (by omega : k = 0 ∨ k = 1 ∨ k = 2 ∨ k = 3 ∨ k = 4 ∨ k = 5 ∨ k = 6 ∨ k = 7) with rfl | rfl | rfl | rfl | rfl | rfl | rfl | rfl
  · exact w_171
  · exact w_173
  · exact w_175
  · exact w_177
  · exact w_179
  · exact w_181
  · exact w_183
  · exact w_185
theorem df_Msg : ∀ k, k < 8 → defaultValue (ty_Msg k) = if ex_it 7 k = true then Value.int 0 else va_rf none := by
  intro k hk
  rcases (by omega : k = 0 ∨ k = 1 ∨ k = 2 ∨ k = 3 ∨ k = 4 ∨ k = 5 ∨ k = 6 ∨ k = 7) with rfl | rfl | rfl | rfl | rfl | rfl | rfl | rfl
  · rfl
  · rfl
  · rfl
  · rfl
  · rfl
  · rfl
  · rfl
  · rfl
theorem w_74 : Cond.laysFinal "FrontCache$UnderWay" "FrontCache$UnderWay" "messages" "[LFrontCache$Message;" ∈ ex_WS := ex_mem (List.mem_append_right _ (List.mem_of_getElem? (i := 74) (by decide +kernel))) (by decide +kernel)
theorem w_76 : Cond.lays "FrontCache$UnderWay" "FrontCache$UnderWay" "count" "I" ∈ ex_WS := ex_mem (List.mem_append_right _ (List.mem_of_getElem? (i := 76) (by decide +kernel))) (by decide +kernel)
theorem inC_UW (c : Cond) : ∀ w ∈ u_ws R_UW T_UW 2, w ∈ c :: ex_WS := by
  intro w hw
  refine List.mem_cons_of_mem _ ?_
  obtain ⟨k, hk, rfl⟩ := List.mem_map.mp hw
  rw [List.mem_range] at hk
  rcases (by omega : k = 0 ∨ k = 1) with rfl | rfl
  · exact w_74
  · exact w_76
theorem df_UW : ∀ k, k < 2 → defaultValue (ty_UW k) = if ex_it 8 k = true then Value.int 0 else va_rf none := by
  intro k hk
  rcases (by omega : k = 0 ∨ k = 1) with rfl | rfl
  · rfl
  · rfl
theorem w_134 : Cond.lays "FrontCache$Origin" "FrontCache$Origin" "runs" "Z" ∈ ex_WS := ex_mem (List.mem_append_right _ (List.mem_of_getElem? (i := 134) (by decide +kernel))) (by decide +kernel)
theorem w_136 : Cond.lays "FrontCache$Origin" "FrontCache$Origin" "lastNumber" "I" ∈ ex_WS := ex_mem (List.mem_append_right _ (List.mem_of_getElem? (i := 136) (by decide +kernel))) (by decide +kernel)
theorem w_138 : Cond.lays "FrontCache$Origin" "FrontCache$Origin" "lastAnswer" "LFrontCache$Message;" ∈ ex_WS := ex_mem (List.mem_append_right _ (List.mem_of_getElem? (i := 138) (by decide +kernel))) (by decide +kernel)
theorem inC_Org (c : Cond) : ∀ w ∈ u_ws R_Org T_Org 3, w ∈ c :: ex_WS := by
  intro w hw
  refine List.mem_cons_of_mem _ ?_
  obtain ⟨k, hk, rfl⟩ := List.mem_map.mp hw
  rw [List.mem_range] at hk
  rcases (by omega : k = 0 ∨ k = 1 ∨ k = 2) with rfl | rfl | rfl
  · exact w_134
  · exact w_136
  · exact w_138
theorem df_Org : ∀ k, k < 3 → defaultValue (ty_Org k) = if ex_it 9 k = true then Value.int 0 else va_rf none := by
  intro k hk
  rcases (by omega : k = 0 ∨ k = 1 ∨ k = 2) with rfl | rfl | rfl
  · rfl
  · rfl
  · rfl
theorem w_200 : Cond.laysFinal "FrontCache$Connection" "FrontCache$Connection" "origin" "I" ∈ ex_WS := ex_mem (List.mem_append_right _ (List.mem_of_getElem? (i := 200) (by decide +kernel))) (by decide +kernel)
theorem w_202 : Cond.laysFinal "FrontCache$Connection" "FrontCache$Connection" "probe" "LFrontCache$Message;" ∈ ex_WS := ex_mem (List.mem_append_right _ (List.mem_of_getElem? (i := 202) (by decide +kernel))) (by decide +kernel)
theorem w_204 : Cond.laysFinal "FrontCache$Connection" "FrontCache$Connection" "queue" "[LFrontCache$Request;" ∈ ex_WS := ex_mem (List.mem_append_right _ (List.mem_of_getElem? (i := 204) (by decide +kernel))) (by decide +kernel)
theorem w_206 : Cond.lays "FrontCache$Connection" "FrontCache$Connection" "count" "I" ∈ ex_WS := ex_mem (List.mem_append_right _ (List.mem_of_getElem? (i := 206) (by decide +kernel))) (by decide +kernel)
theorem w_208 : Cond.lays "FrontCache$Connection" "FrontCache$Connection" "lastNumber" "I" ∈ ex_WS := ex_mem (List.mem_append_right _ (List.mem_of_getElem? (i := 208) (by decide +kernel))) (by decide +kernel)
theorem w_210 : Cond.lays "FrontCache$Connection" "FrontCache$Connection" "work" "LFrontCache$Message;" ∈ ex_WS := ex_mem (List.mem_append_right _ (List.mem_of_getElem? (i := 210) (by decide +kernel))) (by decide +kernel)
theorem w_212 : Cond.lays "FrontCache$Connection" "FrontCache$Connection" "workSince" "I" ∈ ex_WS := ex_mem (List.mem_append_right _ (List.mem_of_getElem? (i := 212) (by decide +kernel))) (by decide +kernel)
theorem w_214 : Cond.lays "FrontCache$Connection" "FrontCache$Connection" "givenUpInRow" "I" ∈ ex_WS := ex_mem (List.mem_append_right _ (List.mem_of_getElem? (i := 214) (by decide +kernel))) (by decide +kernel)
theorem w_216 : Cond.lays "FrontCache$Connection" "FrontCache$Connection" "isDown" "Z" ∈ ex_WS := ex_mem (List.mem_append_right _ (List.mem_of_getElem? (i := 216) (by decide +kernel))) (by decide +kernel)
theorem w_218 : Cond.lays "FrontCache$Connection" "FrontCache$Connection" "downSince" "I" ∈ ex_WS := ex_mem (List.mem_append_right _ (List.mem_of_getElem? (i := 218) (by decide +kernel))) (by decide +kernel)
theorem inC_Con (c : Cond) : ∀ w ∈ u_ws R_Con T_Con 10, w ∈ c :: ex_WS := by
  intro w hw
  refine List.mem_cons_of_mem _ ?_
  obtain ⟨k, hk, rfl⟩ := List.mem_map.mp hw
  rw [List.mem_range] at hk
  rcases (by omega : k = 0 ∨ k = 1 ∨ k = 2 ∨ k = 3 ∨ k = 4 ∨ k = 5 ∨ k = 6 ∨ k = 7 ∨ k = 8 ∨ k = 9) with rfl | rfl | rfl | rfl | rfl | rfl | rfl | rfl | rfl | rfl
  · exact w_200
  · exact w_202
  · exact w_204
  · exact w_206
  · exact w_208
  · exact w_210
  · exact w_212
  · exact w_214
  · exact w_216
  · exact w_218
theorem df_Con : ∀ k, k < 10 → defaultValue (ty_Con k) = if ex_it 10 k = true then Value.int 0 else va_rf none := by
  intro k hk
  rcases (by omega : k = 0 ∨ k = 1 ∨ k = 2 ∨ k = 3 ∨ k = 4 ∨ k = 5 ∨ k = 6 ∨ k = 7 ∨ k = 8 ∨ k = 9) with rfl | rfl | rfl | rfl | rfl | rfl | rfl | rfl | rfl | rfl
  · rfl
  · rfl
  · rfl
  · rfl
  · rfl
  · rfl
  · rfl
  · rfl
  · rfl
  · rfl
theorem w_773 : Cond.laysFinal "FrontCacheModel" "FrontCacheModel" "capacity" "I" ∈ ex_WS := ex_mem (List.mem_append_right _ (List.mem_of_getElem? (i := 773) (by decide +kernel))) (by decide +kernel)
theorem w_775 : Cond.lays "FrontCacheModel" "FrontCacheModel" "time" "I" ∈ ex_WS := ex_mem (List.mem_append_right _ (List.mem_of_getElem? (i := 775) (by decide +kernel))) (by decide +kernel)
theorem w_777 : Cond.lays "FrontCacheModel" "FrontCacheModel" "versions" "I" ∈ ex_WS := ex_mem (List.mem_append_right _ (List.mem_of_getElem? (i := 777) (by decide +kernel))) (by decide +kernel)
theorem w_779 : Cond.laysFinal "FrontCacheModel" "FrontCacheModel" "draft" "[C" ∈ ex_WS := ex_mem (List.mem_append_right _ (List.mem_of_getElem? (i := 779) (by decide +kernel))) (by decide +kernel)
theorem w_781 : Cond.lays "FrontCacheModel" "FrontCacheModel" "size" "I" ∈ ex_WS := ex_mem (List.mem_append_right _ (List.mem_of_getElem? (i := 781) (by decide +kernel))) (by decide +kernel)
theorem w_783 : Cond.laysFinal "FrontCacheModel" "FrontCacheModel" "read" "[I" ∈ ex_WS := ex_mem (List.mem_append_right _ (List.mem_of_getElem? (i := 783) (by decide +kernel))) (by decide +kernel)
theorem w_785 : Cond.laysFinal "FrontCacheModel" "FrontCacheModel" "names" "[C" ∈ ex_WS := ex_mem (List.mem_append_right _ (List.mem_of_getElem? (i := 785) (by decide +kernel))) (by decide +kernel)
theorem w_787 : Cond.laysFinal "FrontCacheModel" "FrontCacheModel" "others" "[C" ∈ ex_WS := ex_mem (List.mem_append_right _ (List.mem_of_getElem? (i := 787) (by decide +kernel))) (by decide +kernel)
theorem w_789 : Cond.laysFinal "FrontCacheModel" "FrontCacheModel" "version" "[I" ∈ ex_WS := ex_mem (List.mem_append_right _ (List.mem_of_getElem? (i := 789) (by decide +kernel))) (by decide +kernel)
theorem w_791 : Cond.laysFinal "FrontCacheModel" "FrontCacheModel" "big" "[I" ∈ ex_WS := ex_mem (List.mem_append_right _ (List.mem_of_getElem? (i := 791) (by decide +kernel))) (by decide +kernel)
theorem w_793 : Cond.laysFinal "FrontCacheModel" "FrontCacheModel" "vary" "[I" ∈ ex_WS := ex_mem (List.mem_append_right _ (List.mem_of_getElem? (i := 793) (by decide +kernel))) (by decide +kernel)
theorem w_795 : Cond.laysFinal "FrontCacheModel" "FrontCacheModel" "control" "[I" ∈ ex_WS := ex_mem (List.mem_append_right _ (List.mem_of_getElem? (i := 795) (by decide +kernel))) (by decide +kernel)
theorem w_797 : Cond.lays "FrontCacheModel" "FrontCacheModel" "stored" "I" ∈ ex_WS := ex_mem (List.mem_append_right _ (List.mem_of_getElem? (i := 797) (by decide +kernel))) (by decide +kernel)
theorem w_799 : Cond.lays "FrontCacheModel" "FrontCacheModel" "newest" "I" ∈ ex_WS := ex_mem (List.mem_append_right _ (List.mem_of_getElem? (i := 799) (by decide +kernel))) (by decide +kernel)
theorem w_801 : Cond.laysFinal "FrontCacheModel" "FrontCacheModel" "entry" "[I" ∈ ex_WS := ex_mem (List.mem_append_right _ (List.mem_of_getElem? (i := 801) (by decide +kernel))) (by decide +kernel)
theorem w_803 : Cond.laysFinal "FrontCacheModel" "FrontCacheModel" "rule" "[I" ∈ ex_WS := ex_mem (List.mem_append_right _ (List.mem_of_getElem? (i := 803) (by decide +kernel))) (by decide +kernel)
theorem w_805 : Cond.lays "FrontCacheModel" "FrontCacheModel" "made" "I" ∈ ex_WS := ex_mem (List.mem_append_right _ (List.mem_of_getElem? (i := 805) (by decide +kernel))) (by decide +kernel)
theorem w_807 : Cond.laysFinal "FrontCacheModel" "FrontCacheModel" "status" "[I" ∈ ex_WS := ex_mem (List.mem_append_right _ (List.mem_of_getElem? (i := 807) (by decide +kernel))) (by decide +kernel)
theorem w_809 : Cond.laysFinal "FrontCacheModel" "FrontCacheModel" "tag" "[I" ∈ ex_WS := ex_mem (List.mem_append_right _ (List.mem_of_getElem? (i := 809) (by decide +kernel))) (by decide +kernel)
theorem w_811 : Cond.laysFinal "FrontCacheModel" "FrontCacheModel" "age" "[I" ∈ ex_WS := ex_mem (List.mem_append_right _ (List.mem_of_getElem? (i := 811) (by decide +kernel))) (by decide +kernel)
theorem w_813 : Cond.laysFinal "FrontCacheModel" "FrontCacheModel" "way" "[I" ∈ ex_WS := ex_mem (List.mem_append_right _ (List.mem_of_getElem? (i := 813) (by decide +kernel))) (by decide +kernel)
theorem w_815 : Cond.laysFinal "FrontCacheModel" "FrontCacheModel" "count" "[I" ∈ ex_WS := ex_mem (List.mem_append_right _ (List.mem_of_getElem? (i := 815) (by decide +kernel))) (by decide +kernel)
theorem w_817 : Cond.laysFinal "FrontCacheModel" "FrontCacheModel" "wait" "[I" ∈ ex_WS := ex_mem (List.mem_append_right _ (List.mem_of_getElem? (i := 817) (by decide +kernel))) (by decide +kernel)
theorem w_819 : Cond.laysFinal "FrontCacheModel" "FrontCacheModel" "wish" "[I" ∈ ex_WS := ex_mem (List.mem_append_right _ (List.mem_of_getElem? (i := 819) (by decide +kernel))) (by decide +kernel)
theorem w_821 : Cond.laysFinal "FrontCacheModel" "FrontCacheModel" "given" "[I" ∈ ex_WS := ex_mem (List.mem_append_right _ (List.mem_of_getElem? (i := 821) (by decide +kernel))) (by decide +kernel)
theorem w_823 : Cond.laysFinal "FrontCacheModel" "FrontCacheModel" "since" "[I" ∈ ex_WS := ex_mem (List.mem_append_right _ (List.mem_of_getElem? (i := 823) (by decide +kernel))) (by decide +kernel)
theorem w_825 : Cond.laysFinal "FrontCacheModel" "FrontCacheModel" "lost" "[I" ∈ ex_WS := ex_mem (List.mem_append_right _ (List.mem_of_getElem? (i := 825) (by decide +kernel))) (by decide +kernel)
theorem w_827 : Cond.laysFinal "FrontCacheModel" "FrontCacheModel" "down" "[Z" ∈ ex_WS := ex_mem (List.mem_append_right _ (List.mem_of_getElem? (i := 827) (by decide +kernel))) (by decide +kernel)
theorem w_829 : Cond.laysFinal "FrontCacheModel" "FrontCacheModel" "stopped" "[Z" ∈ ex_WS := ex_mem (List.mem_append_right _ (List.mem_of_getElem? (i := 829) (by decide +kernel))) (by decide +kernel)
theorem w_831 : Cond.laysFinal "FrontCacheModel" "FrontCacheModel" "taken" "[I" ∈ ex_WS := ex_mem (List.mem_append_right _ (List.mem_of_getElem? (i := 831) (by decide +kernel))) (by decide +kernel)
theorem w_833 : Cond.lays "FrontCacheModel" "FrontCacheModel" "flying" "I" ∈ ex_WS := ex_mem (List.mem_append_right _ (List.mem_of_getElem? (i := 833) (by decide +kernel))) (by decide +kernel)
theorem w_835 : Cond.laysFinal "FrontCacheModel" "FrontCacheModel" "row" "[I" ∈ ex_WS := ex_mem (List.mem_append_right _ (List.mem_of_getElem? (i := 835) (by decide +kernel))) (by decide +kernel)
theorem inC_Mdl (c : Cond) : ∀ w ∈ u_ws R_Mdl T_Mdl 32, w ∈ c :: ex_WS := by
  intro w hw
  refine List.mem_cons_of_mem _ ?_
  obtain ⟨k, hk, rfl⟩ := List.mem_map.mp hw
  rw [List.mem_range] at hk
  rcases (by omega : k = 0 ∨ k = 1 ∨ k = 2 ∨ k = 3 ∨ k = 4 ∨ k = 5 ∨ k = 6 ∨ k = 7 ∨ k = 8 ∨ k = 9 ∨ k = 10 ∨ k = 11 ∨ k = 12 ∨ k = 13 ∨ k = 14 ∨ k = 15 ∨ k = 16 ∨ k = 17 ∨ k = 18 ∨ k = 19 ∨ k = 20 ∨ k = 21 ∨ k = 22 ∨ k = 23 ∨ k = 24 ∨ k = 25 ∨ k = 26 ∨ k = 27 ∨ k = 28 ∨ k = 29 ∨ k = 30 ∨ k = 31) with rfl | rfl | rfl | rfl | rfl | rfl | rfl | rfl | rfl | rfl | rfl | rfl | rfl | rfl | rfl | rfl | rfl | rfl | rfl | rfl | rfl | rfl | rfl | rfl | rfl | rfl | rfl | rfl | rfl | rfl | rfl | rfl
  · exact w_773
  · exact w_775
  · exact w_777
  · exact w_779
  · exact w_781
  · exact w_783
  · exact w_785
  · exact w_787
  · exact w_789
  · exact w_791
  · exact w_793
  · exact w_795
  · exact w_797
  · exact w_799
  · exact w_801
  · exact w_803
  · exact w_805
  · exact w_807
  · exact w_809
  · exact w_811
  · exact w_813
  · exact w_815
  · exact w_817
  · exact w_819
  · exact w_821
  · exact w_823
  · exact w_825
  · exact w_827
  · exact w_829
  · exact w_831
  · exact w_833
  · exact w_835
theorem df_Mdl : ∀ k, k < 32 → defaultValue (ty_Mdl k) = if ex_it 11 k = true then Value.int 0 else va_rf none := by
  intro k hk
  rcases (by omega : k = 0 ∨ k = 1 ∨ k = 2 ∨ k = 3 ∨ k = 4 ∨ k = 5 ∨ k = 6 ∨ k = 7 ∨ k = 8 ∨ k = 9 ∨ k = 10 ∨ k = 11 ∨ k = 12 ∨ k = 13 ∨ k = 14 ∨ k = 15 ∨ k = 16 ∨ k = 17 ∨ k = 18 ∨ k = 19 ∨ k = 20 ∨ k = 21 ∨ k = 22 ∨ k = 23 ∨ k = 24 ∨ k = 25 ∨ k = 26 ∨ k = 27 ∨ k = 28 ∨ k = 29 ∨ k = 30 ∨ k = 31) with rfl | rfl | rfl | rfl | rfl | rfl | rfl | rfl | rfl | rfl | rfl | rfl | rfl | rfl | rfl | rfl | rfl | rfl | rfl | rfl | rfl | rfl | rfl | rfl | rfl | rfl | rfl | rfl | rfl | rfl | rfl | rfl
  · rfl
  · rfl
  · rfl
  · rfl
  · rfl
  · rfl
  · rfl
  · rfl
  · rfl
  · rfl
  · rfl
  · rfl
  · rfl
  · rfl
  · rfl
  · rfl
  · rfl
  · rfl
  · rfl
  · rfl
  · rfl
  · rfl
  · rfl
  · rfl
  · rfl
  · rfl
  · rfl
  · rfl
  · rfl
  · rfl
  · rfl
  · rfl
theorem ex_z1 {x : Int32} (h : x = 0 ∨ x = 1) : narrow .boolean (ex_v (.inl x)) = ex_v (.inl x) := by rcases h with rfl | rfl <;> rfl
theorem ex_z2 {x : Int32} (h : x = 0 ∨ x = 1) : fits .boolean (ex_v (.inl x)) = true := by rcases h with rfl | rfl <;> rfl
theorem ex_o1 (C : String) (x : Option Nat) : narrow (.object C) (ex_v (.inr x)) = ex_v (.inr x) := by cases x <;> rfl
theorem ex_o2 (C : String) (x : Option Nat) : fits (.object C) (ex_v (.inr x)) = true := by cases x <;> rfl
theorem ex_a1 (C : FieldType) (x : Option Nat) : narrow (.array C) (ex_v (.inr x)) = ex_v (.inr x) := by cases x <;> rfl
theorem ex_a2 (C : FieldType) (x : Option Nat) : fits (.array C) (ex_v (.inr x)) = true := by cases x <;> rfl
def y_FC_init : MethodName := ⟨"FrontCache", "<init>", "(I)V"⟩
def M_FC_init : ex_M := ("FrontCache", y_FC_init, prog_1_method_1_code, 3, none, Cond.code y_FC_init prog_1_method_1_code 3 none :: ex_WS)
def y_Drf_init : MethodName := ⟨"FrontCache$Draft", "<init>", "()V"⟩
def M_Drf_init : ex_M := ("FrontCache$Draft", y_Drf_init, prog_4_method_1_code, 1, none, Cond.code y_Drf_init prog_4_method_1_code 1 none :: ex_WS)
def y_Sto_init : MethodName := ⟨"FrontCache$Store", "<init>", "(I)V"⟩
def M_Sto_init : ex_M := ("FrontCache$Store", y_Sto_init, prog_10_method_1_code, 2, none, Cond.code y_Sto_init prog_10_method_1_code 2 none :: ex_WS)
def y_UW_init : MethodName := ⟨"FrontCache$UnderWay", "<init>", "()V"⟩
def M_UW_init : ex_M := ("FrontCache$UnderWay", y_UW_init, prog_11_method_1_code, 1, none, Cond.code y_UW_init prog_11_method_1_code 1 none :: ex_WS)
def y_Ctl_init : MethodName := ⟨"FrontCache$Control", "<init>", "()V"⟩
def M_Ctl_init : ex_M := ("FrontCache$Control", y_Ctl_init, prog_3_method_1_code, 1, none, Cond.code y_Ctl_init prog_3_method_1_code 1 none :: ex_WS)
def y_Arr_fill : MethodName := ⟨"java/util/Arrays", "fill", "([II)V"⟩
def M_Arr_fill : ex_M := ("java/util/Arrays", y_Arr_fill, prog_18_method_103_code, 4, none, Cond.code y_Arr_fill prog_18_method_103_code 4 none :: ex_WS)
def y_Res_init : MethodName := ⟨"FrontCache$Resource", "<init>", "(IIZLFrontCache$Control;)V"⟩
def M_Res_init : ex_M := ("FrontCache$Resource", y_Res_init, prog_9_method_1_code, 5, none, Cond.code y_Res_init prog_9_method_1_code 5 none :: ex_WS)
def y_Org_init : MethodName := ⟨"FrontCache$Origin", "<init>", "()V"⟩
def M_Org_init : ex_M := ("FrontCache$Origin", y_Org_init, prog_7_method_1_code, 1, none, Cond.code y_Org_init prog_7_method_1_code 1 none :: ex_WS)
def y_Con_init : MethodName := ⟨"FrontCache$Connection", "<init>", "(I)V"⟩
def M_Con_init : ex_M := ("FrontCache$Connection", y_Con_init, prog_2_method_1_code, 2, none, Cond.code y_Con_init prog_2_method_1_code 2 none :: ex_WS)
def y_Msg_init : MethodName := ⟨"FrontCache$Message", "<init>", "(IILFrontCache$Request;)V"⟩
def M_Msg_init : ex_M := ("FrontCache$Message", y_Msg_init, prog_6_method_1_code, 4, none, Cond.code y_Msg_init prog_6_method_1_code 4 none :: ex_WS)
def y_FC_type : MethodName := ⟨"FrontCache", "type", "(C)Z"⟩
def M_FC_type : ex_M := ("FrontCache", y_FC_type, prog_1_method_2_code, 2, (some FieldType.boolean), Cond.code y_FC_type prog_1_method_2_code 2 (some FieldType.boolean) :: ex_WS)
def y_Drf_append : MethodName := ⟨"FrontCache$Draft", "append", "(C)Z"⟩
def M_Drf_append : ex_M := ("FrontCache$Draft", y_Drf_append, prog_4_method_2_code, 2, (some FieldType.boolean), Cond.code y_Drf_append prog_4_method_2_code 2 (some FieldType.boolean) :: ex_WS)
def y_FC_publish : MethodName := ⟨"FrontCache", "publish", "(IIZ)I"⟩
def M_FC_publish : ex_M := ("FrontCache", y_FC_publish, prog_1_method_3_code, 4, (some FieldType.int), Cond.code y_FC_publish prog_1_method_3_code 4 (some FieldType.int) :: ex_WS)
def y_FC_isPath : MethodName := ⟨"FrontCache", "isPath", "(I)Z"⟩
def M_FC_isPath : ex_M := ("FrontCache", y_FC_isPath, prog_1_method_21_code, 1, (some FieldType.boolean), Cond.code y_FC_isPath prog_1_method_21_code 1 (some FieldType.boolean) :: ex_WS)
def y_FC_isSize : MethodName := ⟨"FrontCache", "isSize", "(I)Z"⟩
def M_FC_isSize : ex_M := ("FrontCache", y_FC_isSize, prog_1_method_23_code, 1, (some FieldType.boolean), Cond.code y_FC_isSize prog_1_method_23_code 1 (some FieldType.boolean) :: ex_WS)
def y_Drf_takeControl : MethodName := ⟨"FrontCache$Draft", "takeControl", "()LFrontCache$Control;"⟩
def M_Drf_takeControl : ex_M := ("FrontCache$Draft", y_Drf_takeControl, prog_4_method_3_code, 4, (some (FieldType.object "FrontCache$Control")), Cond.code y_Drf_takeControl prog_4_method_3_code 4 (some (FieldType.object "FrontCache$Control")) :: ex_WS)
def y_Drf_readElement : MethodName := ⟨"FrontCache$Draft", "readElement", "(LFrontCache$Control;II)V"⟩
def M_Drf_readElement : ex_M := ("FrontCache$Draft", y_Drf_readElement, prog_4_method_4_code, 9, none, Cond.code y_Drf_readElement prog_4_method_4_code 9 none :: ex_WS)
def y_Drf_isOfName : MethodName := ⟨"FrontCache$Draft", "isOfName", "(C)Z"⟩
def M_Drf_isOfName : ex_M := ("FrontCache$Draft", y_Drf_isOfName, prog_4_method_5_code, 1, (some FieldType.boolean), Cond.code y_Drf_isOfName prog_4_method_5_code 1 (some FieldType.boolean) :: ex_WS)
def y_Drf_numberFrom : MethodName := ⟨"FrontCache$Draft", "numberFrom", "(II)I"⟩
def M_Drf_numberFrom : ex_M := ("FrontCache$Draft", y_Drf_numberFrom, prog_4_method_6_code, 6, (some FieldType.int), Cond.code y_Drf_numberFrom prog_4_method_6_code 6 (some FieldType.int) :: ex_WS)
def y_Drf_directiveAt : MethodName := ⟨"FrontCache$Draft", "directiveAt", "(II)I"⟩
def M_Drf_directiveAt : ex_M := ("FrontCache$Draft", y_Drf_directiveAt, prog_4_method_7_code, 4, (some FieldType.int), Cond.code y_Drf_directiveAt prog_4_method_7_code 4 (some FieldType.int) :: ex_WS)
def y_Ctl_nameOf : MethodName := ⟨"FrontCache$Control", "nameOf", "(I)Ljava/lang/String;"⟩
def M_Ctl_nameOf : ex_M := ("FrontCache$Control", y_Ctl_nameOf, prog_3_method_2_code, 1, (some (FieldType.object "java/lang/String")), Cond.code y_Ctl_nameOf prog_3_method_2_code 1 (some (FieldType.object "java/lang/String")) :: ex_WS)
def y_Drf_stands : MethodName := ⟨"FrontCache$Draft", "stands", "(Ljava/lang/String;II)Z"⟩
def M_Drf_stands : ex_M := ("FrontCache$Draft", y_Drf_stands, prog_4_method_8_code, 5, (some FieldType.boolean), Cond.code y_Drf_stands prog_4_method_8_code 5 (some FieldType.boolean) :: ex_WS)
def y_Str_length : MethodName := ⟨"java/lang/String", "length", "()I"⟩
def M_Str_length : ex_M := ("java/lang/String", y_Str_length, prog_15_method_54_code, 1, (some FieldType.int), Cond.code y_Str_length prog_15_method_54_code 1 (some FieldType.int) :: ex_WS)
def y_Str_coder : MethodName := ⟨"java/lang/String", "coder", "()B"⟩
def M_Str_coder : ex_M := ("java/lang/String", y_Str_coder, prog_15_method_152_code, 1, (some FieldType.byte), Cond.code y_Str_coder prog_15_method_152_code 1 (some FieldType.byte) :: ex_WS)
def y_Str_charAt : MethodName := ⟨"java/lang/String", "charAt", "(I)C"⟩
def M_Str_charAt : ex_M := ("java/lang/String", y_Str_charAt, prog_15_method_56_code, 2, (some FieldType.char), Cond.code y_Str_charAt prog_15_method_56_code 2 (some FieldType.char) :: ex_WS)
def y_Str_isLatin1 : MethodName := ⟨"java/lang/String", "isLatin1", "()Z"⟩
def M_Str_isLatin1 : ex_M := ("java/lang/String", y_Str_isLatin1, prog_15_method_154_code, 1, (some FieldType.boolean), Cond.code y_Str_isLatin1 prog_15_method_154_code 1 (some FieldType.boolean) :: ex_WS)
def y_SL1_charAt : MethodName := ⟨"java/lang/StringLatin1", "charAt", "([BI)C"⟩
def M_SL1_charAt : ex_M := ("java/lang/StringLatin1", y_SL1_charAt, prog_16_method_2_code, 2, (some FieldType.char), Cond.code y_SL1_charAt prog_16_method_2_code 2 (some FieldType.char) :: ex_WS)
def y_Str_checkIndex : MethodName := ⟨"java/lang/String", "checkIndex", "(II)V"⟩
def M_Str_checkIndex : ex_M := ("java/lang/String", y_Str_checkIndex, prog_15_method_155_code, 2, none, Cond.code y_Str_checkIndex prog_15_method_155_code 2 none :: ex_WS)
def y_Pre_checkIndex : MethodName := ⟨"jdk/internal/util/Preconditions", "checkIndex", "(IILjava/util/function/BiFunction;)I"⟩
def M_Pre_checkIndex : ex_M := ("jdk/internal/util/Preconditions", y_Pre_checkIndex, prog_19_method_11_code, 3, (some FieldType.int), Cond.code y_Pre_checkIndex prog_19_method_11_code 3 (some FieldType.int) :: ex_WS)
def y_Ctl_learn : MethodName := ⟨"FrontCache$Control", "learn", "(II)V"⟩
def M_Ctl_learn : ex_M := ("FrontCache$Control", y_Ctl_learn, prog_3_method_3_code, 3, none, Cond.code y_Ctl_learn prog_3_method_3_code 3 none :: ex_WS)
def y_Ctl_has : MethodName := ⟨"FrontCache$Control", "has", "(I)Z"⟩
def M_Ctl_has : ex_M := ("FrontCache$Control", y_Ctl_has, prog_3_method_4_code, 2, (some FieldType.boolean), Cond.code y_Ctl_has prog_3_method_4_code 2 (some FieldType.boolean) :: ex_WS)
def y_FC_renew : MethodName := ⟨"FrontCache", "renew", "(IIZLFrontCache$Control;)I"⟩
def M_FC_renew : ex_M := ("FrontCache", y_FC_renew, prog_1_method_25_code, 5, (some FieldType.int), Cond.code y_FC_renew prog_1_method_25_code 5 (some FieldType.int) :: ex_WS)
def y_FC_withdraw : MethodName := ⟨"FrontCache", "withdraw", "(I)Z"⟩
def M_FC_withdraw : ex_M := ("FrontCache", y_FC_withdraw, prog_1_method_4_code, 2, (some FieldType.boolean), Cond.code y_FC_withdraw prog_1_method_4_code 2 (some FieldType.boolean) :: ex_WS)
def y_Res_isAbsent : MethodName := ⟨"FrontCache$Resource", "isAbsent", "()Z"⟩
def M_Res_isAbsent : ex_M := ("FrontCache$Resource", y_Res_isAbsent, prog_9_method_2_code, 1, (some FieldType.boolean), Cond.code y_Res_isAbsent prog_9_method_2_code 1 (some FieldType.boolean) :: ex_WS)
def y_FC_get : MethodName := ⟨"FrontCache", "get", "(III)I"⟩
def M_FC_get : ex_M := ("FrontCache", y_FC_get, prog_1_method_5_code, 5, (some FieldType.int), Cond.code y_FC_get prog_1_method_5_code 5 (some FieldType.int) :: ex_WS)
def y_FC_nextRequest : MethodName := ⟨"FrontCache", "nextRequest", "()I"⟩
def M_FC_nextRequest : ex_M := ("FrontCache", y_FC_nextRequest, prog_1_method_26_code, 1, (some FieldType.int), Cond.code y_FC_nextRequest prog_1_method_26_code 1 (some FieldType.int) :: ex_WS)
def y_Req_init : MethodName := ⟨"FrontCache$Request", "<init>", "(IIIILFrontCache$Control;)V"⟩
def M_Req_init : ex_M := ("FrontCache$Request", y_Req_init, prog_8_method_1_code, 6, none, Cond.code y_Req_init prog_8_method_1_code 6 none :: ex_WS)
def y_FC_keepRequest : MethodName := ⟨"FrontCache", "keepRequest", "(LFrontCache$Request;)V"⟩
def M_FC_keepRequest : ex_M := ("FrontCache", y_FC_keepRequest, prog_1_method_28_code, 2, none, Cond.code y_FC_keepRequest prog_1_method_28_code 2 none :: ex_WS)
def y_FC_slotOf : MethodName := ⟨"FrontCache", "slotOf", "(I)I"⟩
def M_FC_slotOf : ex_M := ("FrontCache", y_FC_slotOf, prog_1_method_27_code, 1, (some FieldType.int), Cond.code y_FC_slotOf prog_1_method_27_code 1 (some FieldType.int) :: ex_WS)
def y_Mth_floorMod : MethodName := ⟨"java/lang/Math", "floorMod", "(II)I"⟩
def M_Mth_floorMod : ex_M := ("java/lang/Math", y_Mth_floorMod, prog_14_method_50_code, 3, (some FieldType.int), Cond.code y_Mth_floorMod prog_14_method_50_code 3 (some FieldType.int) :: ex_WS)
def y_FC_dealWithGet : MethodName := ⟨"FrontCache", "dealWithGet", "(LFrontCache$Request;)V"⟩
def M_FC_dealWithGet : ex_M := ("FrontCache", y_FC_dealWithGet, prog_1_method_31_code, 3, none, Cond.code y_FC_dealWithGet prog_1_method_31_code 3 none :: ex_WS)
def y_Sto_find : MethodName := ⟨"FrontCache$Store", "find", "(II)LFrontCache$Entry;"⟩
def M_Sto_find : ex_M := ("FrontCache$Store", y_Sto_find, prog_10_method_3_code, 4, (some (FieldType.object "FrontCache$Entry")), Cond.code y_Sto_find prog_10_method_3_code 4 (some (FieldType.object "FrontCache$Entry")) :: ex_WS)
def y_Ent_matches : MethodName := ⟨"FrontCache$Entry", "matches", "(II)Z"⟩
def M_Ent_matches : ex_M := ("FrontCache$Entry", y_Ent_matches, prog_5_method_2_code, 3, (some FieldType.boolean), Cond.code y_Ent_matches prog_5_method_2_code 3 (some FieldType.boolean) :: ex_WS)
def y_Ent_serves : MethodName := ⟨"FrontCache$Entry", "serves", "(LFrontCache$Control;I)Z"⟩
def M_Ent_serves : ex_M := ("FrontCache$Entry", y_Ent_serves, prog_5_method_4_code, 5, (some FieldType.boolean), Cond.code y_Ent_serves prog_5_method_4_code 5 (some FieldType.boolean) :: ex_WS)
def y_Ent_age : MethodName := ⟨"FrontCache$Entry", "age", "(I)I"⟩
def M_Ent_age : ex_M := ("FrontCache$Entry", y_Ent_age, prog_5_method_3_code, 2, (some FieldType.int), Cond.code y_Ent_age prog_5_method_3_code 2 (some FieldType.int) :: ex_WS)
def y_Ctl_lifetime : MethodName := ⟨"FrontCache$Control", "lifetime", "()I"⟩
def M_Ctl_lifetime : ex_M := ("FrontCache$Control", y_Ctl_lifetime, prog_3_method_6_code, 1, (some FieldType.int), Cond.code y_Ctl_lifetime prog_3_method_6_code 1 (some FieldType.int) :: ex_WS)
def y_Ctl_number : MethodName := ⟨"FrontCache$Control", "number", "(I)I"⟩
def M_Ctl_number : ex_M := ("FrontCache$Control", y_Ctl_number, prog_3_method_5_code, 2, (some FieldType.int), Cond.code y_Ctl_number prog_3_method_5_code 2 (some FieldType.int) :: ex_WS)
def y_Ctl_hasLifetime : MethodName := ⟨"FrontCache$Control", "hasLifetime", "()Z"⟩
def M_Ctl_hasLifetime : ex_M := ("FrontCache$Control", y_Ctl_hasLifetime, prog_3_method_7_code, 1, (some FieldType.boolean), Cond.code y_Ctl_hasLifetime prog_3_method_7_code 1 (some FieldType.boolean) :: ex_WS)
def y_Sto_makeLatest : MethodName := ⟨"FrontCache$Store", "makeLatest", "(LFrontCache$Entry;)V"⟩
def M_Sto_makeLatest : ex_M := ("FrontCache$Store", y_Sto_makeLatest, prog_10_method_5_code, 3, none, Cond.code y_Sto_makeLatest prog_10_method_5_code 3 none :: ex_WS)
def y_Sto_placeOf : MethodName := ⟨"FrontCache$Store", "placeOf", "(LFrontCache$Entry;)I"⟩
def M_Sto_placeOf : ex_M := ("FrontCache$Store", y_Sto_placeOf, prog_10_method_9_code, 3, (some FieldType.int), Cond.code y_Sto_placeOf prog_10_method_9_code 3 (some FieldType.int) :: ex_WS)
def y_Sto_removeAt : MethodName := ⟨"FrontCache$Store", "removeAt", "(I)V"⟩
def M_Sto_removeAt : ex_M := ("FrontCache$Store", y_Sto_removeAt, prog_10_method_11_code, 3, none, Cond.code y_Sto_removeAt prog_10_method_11_code 3 none :: ex_WS)
def y_Sto_append : MethodName := ⟨"FrontCache$Store", "append", "(LFrontCache$Entry;)V"⟩
def M_Sto_append : ex_M := ("FrontCache$Store", y_Sto_append, prog_10_method_10_code, 2, none, Cond.code y_Sto_append prog_10_method_10_code 2 none :: ex_WS)
def y_Req_answerOk : MethodName := ⟨"FrontCache$Request", "answerOk", "(III)V"⟩
def M_Req_answerOk : ex_M := ("FrontCache$Request", y_Req_answerOk, prog_8_method_3_code, 4, none, Cond.code y_Req_answerOk prog_8_method_3_code 4 none :: ex_WS)
def y_FC_passOn : MethodName := ⟨"FrontCache", "passOn", "(LFrontCache$Request;)V"⟩
def M_FC_passOn : ex_M := ("FrontCache", y_FC_passOn, prog_1_method_30_code, 2, none, Cond.code y_FC_passOn prog_1_method_30_code 2 none :: ex_WS)
def y_FC_ownerOf : MethodName := ⟨"FrontCache", "ownerOf", "(I)I"⟩
def M_FC_ownerOf : ex_M := ("FrontCache", y_FC_ownerOf, prog_1_method_24_code, 5, (some FieldType.int), Cond.code y_FC_ownerOf prog_1_method_24_code 5 (some FieldType.int) :: ex_WS)
def M_Con_admit : ex_M := ("FrontCache$Connection", y_Con_admit, prog_2_method_2_code, 4, none, Cond.code y_Con_admit prog_2_method_2_code 4 none :: ex_WS)
def y_Con_beginNext : MethodName := ⟨"FrontCache$Connection", "beginNext", "(ILFrontCache$UnderWay;)V"⟩
def M_Con_beginNext : ex_M := ("FrontCache$Connection", y_Con_beginNext, prog_2_method_3_code, 3, none, Cond.code y_Con_beginNext prog_2_method_3_code 3 none :: ex_WS)
def y_UW_send : MethodName := ⟨"FrontCache$UnderWay", "send", "(LFrontCache$Message;)Z"⟩
def M_UW_send : ex_M := ("FrontCache$UnderWay", y_UW_send, prog_11_method_3_code, 2, (some FieldType.boolean), Cond.code y_UW_send prog_11_method_3_code 2 (some FieldType.boolean) :: ex_WS)
def y_FC_put : MethodName := ⟨"FrontCache", "put", "(II)I"⟩
def M_FC_put : ex_M := ("FrontCache", y_FC_put, prog_1_method_6_code, 3, (some FieldType.int), Cond.code y_FC_put prog_1_method_6_code 3 (some FieldType.int) :: ex_WS)
def y_FC_makeChange : MethodName := ⟨"FrontCache", "makeChange", "(III)I"⟩
def M_FC_makeChange : ex_M := ("FrontCache", y_FC_makeChange, prog_1_method_29_code, 5, (some FieldType.int), Cond.code y_FC_makeChange prog_1_method_29_code 5 (some FieldType.int) :: ex_WS)
def y_Req_init2 : MethodName := ⟨"FrontCache$Request", "<init>", "(IIII)V"⟩
def M_Req_init2 : ex_M := ("FrontCache$Request", y_Req_init2, prog_8_method_2_code, 5, none, Cond.code y_Req_init2 prog_8_method_2_code 5 none :: ex_WS)
def y_FC_delete : MethodName := ⟨"FrontCache", "delete", "(I)I"⟩
def M_FC_delete : ex_M := ("FrontCache", y_FC_delete, prog_1_method_7_code, 2, (some FieldType.int), Cond.code y_FC_delete prog_1_method_7_code 2 (some FieldType.int) :: ex_WS)
def y_FC_deliver : MethodName := ⟨"FrontCache", "deliver", "(I)Z"⟩
def M_FC_deliver : ex_M := ("FrontCache", y_FC_deliver, prog_1_method_8_code, 3, (some FieldType.boolean), Cond.code y_FC_deliver prog_1_method_8_code 3 (some FieldType.boolean) :: ex_WS)
def y_UW_takeOut : MethodName := ⟨"FrontCache$UnderWay", "takeOut", "(I)LFrontCache$Message;"⟩
def M_UW_takeOut : ex_M := ("FrontCache$UnderWay", y_UW_takeOut, prog_11_method_4_code, 4, (some (FieldType.object "FrontCache$Message")), Cond.code y_UW_takeOut prog_11_method_4_code 4 (some (FieldType.object "FrontCache$Message")) :: ex_WS)
def y_UW_at : MethodName := ⟨"FrontCache$UnderWay", "at", "(I)LFrontCache$Message;"⟩
def M_UW_at : ex_M := ("FrontCache$UnderWay", y_UW_at, prog_11_method_2_code, 2, (some (FieldType.object "FrontCache$Message")), Cond.code y_UW_at prog_11_method_2_code 2 (some (FieldType.object "FrontCache$Message")) :: ex_WS)
def y_FC_comeToFront : MethodName := ⟨"FrontCache", "comeToFront", "(LFrontCache$Message;)V"⟩
def M_FC_comeToFront : ex_M := ("FrontCache", y_FC_comeToFront, prog_1_method_34_code, 4, none, Cond.code y_FC_comeToFront prog_1_method_34_code 4 none :: ex_WS)
def y_Con_hearProbe : MethodName := ⟨"FrontCache$Connection", "hearProbe", "()V"⟩
def M_Con_hearProbe : ex_M := ("FrontCache$Connection", y_Con_hearProbe, prog_2_method_5_code, 1, none, Cond.code y_Con_hearProbe prog_2_method_5_code 1 none :: ex_WS)
def y_Con_finish : MethodName := ⟨"FrontCache$Connection", "finish", "(I)LFrontCache$Request;"⟩
def M_Con_finish : ex_M := ("FrontCache$Connection", y_Con_finish, prog_2_method_4_code, 2, (some (FieldType.object "FrontCache$Request")), Cond.code y_Con_finish prog_2_method_4_code 2 (some (FieldType.object "FrontCache$Request")) :: ex_WS)
def y_Con_takeFirst : MethodName := ⟨"FrontCache$Connection", "takeFirst", "()LFrontCache$Request;"⟩
def M_Con_takeFirst : ex_M := ("FrontCache$Connection", y_Con_takeFirst, prog_2_method_9_code, 3, (some (FieldType.object "FrontCache$Request")), Cond.code y_Con_takeFirst prog_2_method_9_code 3 (some (FieldType.object "FrontCache$Request")) :: ex_WS)
def y_FC_settleFound : MethodName := ⟨"FrontCache", "settleFound", "(LFrontCache$Request;LFrontCache$Message;LFrontCache$Resource;)V"⟩
def M_FC_settleFound : ex_M := ("FrontCache", y_FC_settleFound, prog_1_method_35_code, 5, none, Cond.code y_FC_settleFound prog_1_method_35_code 5 none :: ex_WS)
def y_Sto_confirm : MethodName := ⟨"FrontCache$Store", "confirm", "(LFrontCache$Entry;)V"⟩
def M_Sto_confirm : ex_M := ("FrontCache$Store", y_Sto_confirm, prog_10_method_6_code, 3, none, Cond.code y_Sto_confirm prog_10_method_6_code 3 none :: ex_WS)
def y_Ctl_allowsStoring : MethodName := ⟨"FrontCache$Control", "allowsStoring", "()Z"⟩
def M_Ctl_allowsStoring : ex_M := ("FrontCache$Control", y_Ctl_allowsStoring, prog_3_method_8_code, 1, (some FieldType.boolean), Cond.code y_Ctl_allowsStoring prog_3_method_8_code 1 (some FieldType.boolean) :: ex_WS)
def y_Ent_init : MethodName := ⟨"FrontCache$Entry", "<init>", "(IILFrontCache$Resource;I)V"⟩
def M_Ent_init : ex_M := ("FrontCache$Entry", y_Ent_init, prog_5_method_1_code, 5, none, Cond.code y_Ent_init prog_5_method_1_code 5 none :: ex_WS)
def y_Res_tagFor : MethodName := ⟨"FrontCache$Resource", "tagFor", "(I)I"⟩
def M_Res_tagFor : ex_M := ("FrontCache$Resource", y_Res_tagFor, prog_9_method_3_code, 2, (some FieldType.int), Cond.code y_Res_tagFor prog_9_method_3_code 2 (some FieldType.int) :: ex_WS)
def y_Sto_add : MethodName := ⟨"FrontCache$Store", "add", "(LFrontCache$Entry;)V"⟩
def M_Sto_add : ex_M := ("FrontCache$Store", y_Sto_add, prog_10_method_4_code, 4, none, Cond.code y_Sto_add prog_10_method_4_code 4 none :: ex_WS)
def y_Sto_removeMatching : MethodName := ⟨"FrontCache$Store", "removeMatching", "(II)V"⟩
def M_Sto_removeMatching : ex_M := ("FrontCache$Store", y_Sto_removeMatching, prog_10_method_7_code, 4, none, Cond.code y_Sto_removeMatching prog_10_method_7_code 4 none :: ex_WS)
def y_Sto_removePath : MethodName := ⟨"FrontCache$Store", "removePath", "(I)V"⟩
def M_Sto_removePath : ex_M := ("FrontCache$Store", y_Sto_removePath, prog_10_method_8_code, 3, none, Cond.code y_Sto_removePath prog_10_method_8_code 3 none :: ex_WS)
def y_FC_settleOther : MethodName := ⟨"FrontCache", "settleOther", "(LFrontCache$Request;I)V"⟩
def M_FC_settleOther : ex_M := ("FrontCache", y_FC_settleOther, prog_1_method_36_code, 3, none, Cond.code y_FC_settleOther prog_1_method_36_code 3 none :: ex_WS)
def y_FC_comeToOrigin : MethodName := ⟨"FrontCache", "comeToOrigin", "(LFrontCache$Message;)V"⟩
def M_FC_comeToOrigin : ex_M := ("FrontCache", y_FC_comeToOrigin, prog_1_method_32_code, 3, none, Cond.code y_FC_comeToOrigin prog_1_method_32_code 3 none :: ex_WS)
def y_Msg_init2 : MethodName := ⟨"FrontCache$Message", "<init>", "(LFrontCache$Message;I)V"⟩
def M_Msg_init2 : ex_M := ("FrontCache$Message", y_Msg_init2, prog_6_method_2_code, 3, none, Cond.code y_Msg_init2 prog_6_method_2_code 3 none :: ex_WS)
def y_Msg_init3 : MethodName := ⟨"FrontCache$Message", "<init>", "(LFrontCache$Message;IILFrontCache$Resource;I)V"⟩
def M_Msg_init3 : ex_M := ("FrontCache$Message", y_Msg_init3, prog_6_method_3_code, 6, none, Cond.code y_Msg_init3 prog_6_method_3_code 6 none :: ex_WS)
def y_FC_answerOfOrigin : MethodName := ⟨"FrontCache", "answerOfOrigin", "(LFrontCache$Message;LFrontCache$Request;)LFrontCache$Message;"⟩
def M_FC_answerOfOrigin : ex_M := ("FrontCache", y_FC_answerOfOrigin, prog_1_method_33_code, 5, (some (FieldType.object "FrontCache$Message")), Cond.code y_FC_answerOfOrigin prog_1_method_33_code 5 (some (FieldType.object "FrontCache$Message")) :: ex_WS)
def y_FC_lose : MethodName := ⟨"FrontCache", "lose", "(I)Z"⟩
def M_FC_lose : ex_M := ("FrontCache", y_FC_lose, prog_1_method_9_code, 2, (some FieldType.boolean), Cond.code y_FC_lose prog_1_method_9_code 2 (some FieldType.boolean) :: ex_WS)
def y_FC_copy : MethodName := ⟨"FrontCache", "copy", "(I)Z"⟩
def M_FC_copy : ex_M := ("FrontCache", y_FC_copy, prog_1_method_10_code, 3, (some FieldType.boolean), Cond.code y_FC_copy prog_1_method_10_code 3 (some FieldType.boolean) :: ex_WS)
def y_FC_tick : MethodName := ⟨"FrontCache", "tick", "()I"⟩
def M_FC_tick : ex_M := ("FrontCache", y_FC_tick, prog_1_method_11_code, 2, (some FieldType.int), Cond.code y_FC_tick prog_1_method_11_code 2 (some FieldType.int) :: ex_WS)
def y_Con_doWhatIsDue : MethodName := ⟨"FrontCache$Connection", "doWhatIsDue", "(ILFrontCache$UnderWay;)V"⟩
def M_Con_doWhatIsDue : ex_M := ("FrontCache$Connection", y_Con_doWhatIsDue, prog_2_method_6_code, 4, none, Cond.code y_Con_doWhatIsDue prog_2_method_6_code 4 none :: ex_WS)
def y_Con_giveUp : MethodName := ⟨"FrontCache$Connection", "giveUp", "(ILFrontCache$UnderWay;)V"⟩
def M_Con_giveUp : ex_M := ("FrontCache$Connection", y_Con_giveUp, prog_2_method_7_code, 3, none, Cond.code y_Con_giveUp prog_2_method_7_code 3 none :: ex_WS)
def y_Con_markDown : MethodName := ⟨"FrontCache$Connection", "markDown", "(I)V"⟩
def M_Con_markDown : ex_M := ("FrontCache$Connection", y_Con_markDown, prog_2_method_8_code, 3, none, Cond.code y_Con_markDown prog_2_method_8_code 3 none :: ex_WS)
def y_FC_power : MethodName := ⟨"FrontCache", "power", "(IZ)Z"⟩
def M_FC_power : ex_M := ("FrontCache", y_FC_power, prog_1_method_12_code, 3, (some FieldType.boolean), Cond.code y_FC_power prog_1_method_12_code 3 (some FieldType.boolean) :: ex_WS)
def y_FC_isOrigin : MethodName := ⟨"FrontCache", "isOrigin", "(I)Z"⟩
def M_FC_isOrigin : ex_M := ("FrontCache", y_FC_isOrigin, prog_1_method_22_code, 1, (some FieldType.boolean), Cond.code y_FC_isOrigin prog_1_method_22_code 1 (some FieldType.boolean) :: ex_WS)
def y_FC_answer : MethodName := ⟨"FrontCache", "answer", "(II)I"⟩
def M_FC_answer : ex_M := ("FrontCache", y_FC_answer, prog_1_method_13_code, 4, (some FieldType.int), Cond.code y_FC_answer prog_1_method_13_code 4 (some FieldType.int) :: ex_WS)
def y_FC_flights : MethodName := ⟨"FrontCache", "flights", "()I"⟩
def M_FC_flights : ex_M := ("FrontCache", y_FC_flights, prog_1_method_14_code, 1, (some FieldType.int), Cond.code y_FC_flights prog_1_method_14_code 1 (some FieldType.int) :: ex_WS)
def y_FC_flight : MethodName := ⟨"FrontCache", "flight", "(II)I"⟩
def M_FC_flight : ex_M := ("FrontCache", y_FC_flight, prog_1_method_15_code, 4, (some FieldType.int), Cond.code y_FC_flight prog_1_method_15_code 4 (some FieldType.int) :: ex_WS)
def y_FC_entries : MethodName := ⟨"FrontCache", "entries", "()I"⟩
def M_FC_entries : ex_M := ("FrontCache", y_FC_entries, prog_1_method_16_code, 1, (some FieldType.int), Cond.code y_FC_entries prog_1_method_16_code 1 (some FieldType.int) :: ex_WS)
def y_FC_entry : MethodName := ⟨"FrontCache", "entry", "(II)I"⟩
def M_FC_entry : ex_M := ("FrontCache", y_FC_entry, prog_1_method_17_code, 4, (some FieldType.int), Cond.code y_FC_entry prog_1_method_17_code 4 (some FieldType.int) :: ex_WS)
def y_Sto_usedLatest : MethodName := ⟨"FrontCache$Store", "usedLatest", "(I)LFrontCache$Entry;"⟩
def M_Sto_usedLatest : ex_M := ("FrontCache$Store", y_Sto_usedLatest, prog_10_method_2_code, 2, (some (FieldType.object "FrontCache$Entry")), Cond.code y_Sto_usedLatest prog_10_method_2_code 2 (some (FieldType.object "FrontCache$Entry")) :: ex_WS)
def y_FC_owner : MethodName := ⟨"FrontCache", "owner", "(I)I"⟩
def M_FC_owner : ex_M := ("FrontCache", y_FC_owner, prog_1_method_18_code, 2, (some FieldType.int), Cond.code y_FC_owner prog_1_method_18_code 2 (some FieldType.int) :: ex_WS)
def y_FC_waiting : MethodName := ⟨"FrontCache", "waiting", "(I)I"⟩
def M_FC_waiting : ex_M := ("FrontCache", y_FC_waiting, prog_1_method_19_code, 2, (some FieldType.int), Cond.code y_FC_waiting prog_1_method_19_code 2 (some FieldType.int) :: ex_WS)
def y_FC_version : MethodName := ⟨"FrontCache", "version", "(I)I"⟩
def M_FC_version : ex_M := ("FrontCache", y_FC_version, prog_1_method_20_code, 2, (some FieldType.int), Cond.code y_FC_version prog_1_method_20_code 2 (some FieldType.int) :: ex_WS)
def y_Law_cell : MethodName := ⟨"FrontCacheLaw", "cell", "([II)I"⟩
def M_Law_cell : ex_M := ("FrontCacheLaw", y_Law_cell, method_2_code, 2, (some FieldType.int), Cond.code y_Law_cell method_2_code 2 (some FieldType.int) :: ex_WS)
def y_Mdl_init : MethodName := ⟨"FrontCacheModel", "<init>", "(I)V"⟩
def M_Mdl_init : ex_M := ("FrontCacheModel", y_Mdl_init, prog_13_method_1_code, 2, none, Cond.code y_Mdl_init prog_13_method_1_code 2 none :: ex_WS)
def y_Mdl_type : MethodName := ⟨"FrontCacheModel", "type", "(C)Z"⟩
def M_Mdl_type : ex_M := ("FrontCacheModel", y_Mdl_type, prog_13_method_2_code, 2, (some FieldType.boolean), Cond.code y_Mdl_type prog_13_method_2_code 2 (some FieldType.boolean) :: ex_WS)
def y_Mdl_owner : MethodName := ⟨"FrontCacheModel", "owner", "(I)I"⟩
def M_Mdl_owner : ex_M := ("FrontCacheModel", y_Mdl_owner, prog_13_method_9_code, 4, (some FieldType.int), Cond.code y_Mdl_owner prog_13_method_9_code 4 (some FieldType.int) :: ex_WS)
def y_Mdl_isPath : MethodName := ⟨"FrontCacheModel", "isPath", "(I)Z"⟩
def M_Mdl_isPath : ex_M := ("FrontCacheModel", y_Mdl_isPath, prog_13_method_7_code, 1, (some FieldType.boolean), Cond.code y_Mdl_isPath prog_13_method_7_code 1 (some FieldType.boolean) :: ex_WS)
def y_Mdl_weight : MethodName := ⟨"FrontCacheModel", "weight", "(II)I"⟩
def M_Mdl_weight : ex_M := ("FrontCacheModel", y_Mdl_weight, prog_13_method_10_code, 2, (some FieldType.int), Cond.code y_Mdl_weight prog_13_method_10_code 2 (some FieldType.int) :: ex_WS)
def y_Mdl_version : MethodName := ⟨"FrontCacheModel", "version", "(I)I"⟩
def M_Mdl_version : ex_M := ("FrontCacheModel", y_Mdl_version, prog_13_method_11_code, 2, (some FieldType.int), Cond.code y_Mdl_version prog_13_method_11_code 2 (some FieldType.int) :: ex_WS)
def y_Mdl_publish : MethodName := ⟨"FrontCacheModel", "publish", "(IIZ)I"⟩
def M_Mdl_publish : ex_M := ("FrontCacheModel", y_Mdl_publish, prog_13_method_12_code, 5, (some FieldType.int), Cond.code y_Mdl_publish prog_13_method_12_code 5 (some FieldType.int) :: ex_WS)
def y_Mdl_parse : MethodName := ⟨"FrontCacheModel", "parse", "()V"⟩
def M_Mdl_parse : ex_M := ("FrontCacheModel", y_Mdl_parse, prog_13_method_4_code, 6, none, Cond.code y_Mdl_parse prog_13_method_4_code 6 none :: ex_WS)
def y_Mdl_element : MethodName := ⟨"FrontCacheModel", "element", "(III)I"⟩
def M_Mdl_element : ex_M := ("FrontCacheModel", y_Mdl_element, prog_13_method_5_code, 7, (some FieldType.int), Cond.code y_Mdl_element prog_13_method_5_code 7 (some FieldType.int) :: ex_WS)
def y_Mdl_is : MethodName := ⟨"FrontCacheModel", "is", "(ZIIII)Z"⟩
def M_Mdl_is : ex_M := ("FrontCacheModel", y_Mdl_is, prog_13_method_3_code, 8, (some FieldType.boolean), Cond.code y_Mdl_is prog_13_method_3_code 8 (some FieldType.boolean) :: ex_WS)
def y_Mdl_withdraw : MethodName := ⟨"FrontCacheModel", "withdraw", "(I)Z"⟩
def M_Mdl_withdraw : ex_M := ("FrontCacheModel", y_Mdl_withdraw, prog_13_method_13_code, 2, (some FieldType.boolean), Cond.code y_Mdl_withdraw prog_13_method_13_code 2 (some FieldType.boolean) :: ex_WS)
def y_Mdl_get : MethodName := ⟨"FrontCacheModel", "get", "(III)I"⟩
def M_Mdl_get : ex_M := ("FrontCacheModel", y_Mdl_get, prog_13_method_27_code, 7, (some FieldType.int), Cond.code y_Mdl_get prog_13_method_27_code 7 (some FieldType.int) :: ex_WS)
def y_Mdl_next : MethodName := ⟨"FrontCacheModel", "next", "()I"⟩
def M_Mdl_next : ex_M := ("FrontCacheModel", y_Mdl_next, prog_13_method_25_code, 1, (some FieldType.int), Cond.code y_Mdl_next prog_13_method_25_code 1 (some FieldType.int) :: ex_WS)
def y_Mdl_reply : MethodName := ⟨"FrontCacheModel", "reply", "(IIIII)V"⟩
def M_Mdl_reply : ex_M := ("FrontCacheModel", y_Mdl_reply, prog_13_method_24_code, 6, none, Cond.code y_Mdl_reply prog_13_method_24_code 6 none :: ex_WS)
def y_Mdl_find : MethodName := ⟨"FrontCacheModel", "find", "(II)I"⟩
def M_Mdl_find : ex_M := ("FrontCacheModel", y_Mdl_find, prog_13_method_17_code, 4, (some FieldType.int), Cond.code y_Mdl_find prog_13_method_17_code 4 (some FieldType.int) :: ex_WS)
def y_Mdl_matches : MethodName := ⟨"FrontCacheModel", "matches", "(III)Z"⟩
def M_Mdl_matches : ex_M := ("FrontCacheModel", y_Mdl_matches, prog_13_method_16_code, 4, (some FieldType.boolean), Cond.code y_Mdl_matches prog_13_method_16_code 4 (some FieldType.boolean) :: ex_WS)
def y_Mdl_part : MethodName := ⟨"FrontCacheModel", "part", "(II)I"⟩
def M_Mdl_part : ex_M := ("FrontCacheModel", y_Mdl_part, prog_13_method_14_code, 3, (some FieldType.int), Cond.code y_Mdl_part prog_13_method_14_code 3 (some FieldType.int) :: ex_WS)
def y_Mdl_hits : MethodName := ⟨"FrontCacheModel", "hits", "(I)Z"⟩
def M_Mdl_hits : ex_M := ("FrontCacheModel", y_Mdl_hits, prog_13_method_26_code, 7, (some FieldType.boolean), Cond.code y_Mdl_hits prog_13_method_26_code 7 (some FieldType.boolean) :: ex_WS)
def y_Mdl_tagOf : MethodName := ⟨"FrontCacheModel", "tagOf", "(I)I"⟩
def M_Mdl_tagOf : ex_M := ("FrontCacheModel", y_Mdl_tagOf, prog_13_method_15_code, 2, (some FieldType.int), Cond.code y_Mdl_tagOf prog_13_method_15_code 2 (some FieldType.int) :: ex_WS)
def y_Mdl_use : MethodName := ⟨"FrontCacheModel", "use", "(I)V"⟩
def M_Mdl_use : ex_M := ("FrontCacheModel", y_Mdl_use, prog_13_method_20_code, 5, none, Cond.code y_Mdl_use prog_13_method_20_code 5 none :: ex_WS)
def y_Mdl_pass : MethodName := ⟨"FrontCacheModel", "pass", "(IIIIII)V"⟩
def M_Mdl_pass : ex_M := ("FrontCacheModel", y_Mdl_pass, prog_13_method_30_code, 11, none, Cond.code y_Mdl_pass prog_13_method_30_code 11 none :: ex_WS)
def y_Mdl_begin : MethodName := ⟨"FrontCacheModel", "begin", "(I)V"⟩
def M_Mdl_begin : ex_M := ("FrontCacheModel", y_Mdl_begin, prog_13_method_33_code, 2, none, Cond.code y_Mdl_begin prog_13_method_33_code 2 none :: ex_WS)
def y_Mdl_sendFirst : MethodName := ⟨"FrontCacheModel", "sendFirst", "(I)V"⟩
def M_Mdl_sendFirst : ex_M := ("FrontCacheModel", y_Mdl_sendFirst, prog_13_method_34_code, 3, none, Cond.code y_Mdl_sendFirst prog_13_method_34_code 3 none :: ex_WS)
def y_Mdl_blank : MethodName := ⟨"FrontCacheModel", "blank", "(IIII)V"⟩
def M_Mdl_blank : ex_M := ("FrontCacheModel", y_Mdl_blank, prog_13_method_32_code, 6, none, Cond.code y_Mdl_blank prog_13_method_32_code 6 none :: ex_WS)
def y_Mdl_send : MethodName := ⟨"FrontCacheModel", "send", "(I)V"⟩
def M_Mdl_send : ex_M := ("FrontCacheModel", y_Mdl_send, prog_13_method_31_code, 3, none, Cond.code y_Mdl_send prog_13_method_31_code 3 none :: ex_WS)
def y_Mdl_put : MethodName := ⟨"FrontCacheModel", "put", "(II)I"⟩
def M_Mdl_put : ex_M := ("FrontCacheModel", y_Mdl_put, prog_13_method_28_code, 4, (some FieldType.int), Cond.code y_Mdl_put prog_13_method_28_code 4 (some FieldType.int) :: ex_WS)
def y_Mdl_delete : MethodName := ⟨"FrontCacheModel", "delete", "(I)I"⟩
def M_Mdl_delete : ex_M := ("FrontCacheModel", y_Mdl_delete, prog_13_method_29_code, 3, (some FieldType.int), Cond.code y_Mdl_delete prog_13_method_29_code 3 (some FieldType.int) :: ex_WS)
def y_Mdl_tick : MethodName := ⟨"FrontCacheModel", "tick", "()I"⟩
def M_Mdl_tick : ex_M := ("FrontCacheModel", y_Mdl_tick, prog_13_method_37_code, 3, (some FieldType.int), Cond.code y_Mdl_tick prog_13_method_37_code 3 (some FieldType.int) :: ex_WS)
def y_Mdl_giveUp : MethodName := ⟨"FrontCacheModel", "giveUp", "(I)V"⟩
def M_Mdl_giveUp : ex_M := ("FrontCacheModel", y_Mdl_giveUp, prog_13_method_36_code, 2, none, Cond.code y_Mdl_giveUp prog_13_method_36_code 2 none :: ex_WS)
def y_Mdl_shift : MethodName := ⟨"FrontCacheModel", "shift", "(I)V"⟩
def M_Mdl_shift : ex_M := ("FrontCacheModel", y_Mdl_shift, prog_13_method_35_code, 3, none, Cond.code y_Mdl_shift prog_13_method_35_code 3 none :: ex_WS)
def y_Mdl_deliver : MethodName := ⟨"FrontCacheModel", "deliver", "(I)Z"⟩
def M_Mdl_deliver : ex_M := ("FrontCacheModel", y_Mdl_deliver, prog_13_method_40_code, 3, (some FieldType.boolean), Cond.code y_Mdl_deliver prog_13_method_40_code 3 (some FieldType.boolean) :: ex_WS)
def y_Mdl_flies : MethodName := ⟨"FrontCacheModel", "flies", "(I)Z"⟩
def M_Mdl_flies : ex_M := ("FrontCacheModel", y_Mdl_flies, prog_13_method_39_code, 2, (some FieldType.boolean), Cond.code y_Mdl_flies prog_13_method_39_code 2 (some FieldType.boolean) :: ex_WS)
def y_Mdl_out : MethodName := ⟨"FrontCacheModel", "out", "(I)V"⟩
def M_Mdl_out : ex_M := ("FrontCacheModel", y_Mdl_out, prog_13_method_38_code, 3, none, Cond.code y_Mdl_out prog_13_method_38_code 3 none :: ex_WS)
def y_Mdl_atOrigin : MethodName := ⟨"FrontCacheModel", "atOrigin", "(I)V"⟩
def M_Mdl_atOrigin : ex_M := ("FrontCacheModel", y_Mdl_atOrigin, prog_13_method_42_code, 5, none, Cond.code y_Mdl_atOrigin prog_13_method_42_code 5 none :: ex_WS)
def y_Mdl_work : MethodName := ⟨"FrontCacheModel", "work", "(II)V"⟩
def M_Mdl_work : ex_M := ("FrontCacheModel", y_Mdl_work, prog_13_method_43_code, 8, none, Cond.code y_Mdl_work prog_13_method_43_code 8 none :: ex_WS)
def y_Mdl_probed : MethodName := ⟨"FrontCacheModel", "probed", "(I)V"⟩
def M_Mdl_probed : ex_M := ("FrontCacheModel", y_Mdl_probed, prog_13_method_41_code, 2, none, Cond.code y_Mdl_probed prog_13_method_41_code 2 none :: ex_WS)
def y_Mdl_answered : MethodName := ⟨"FrontCacheModel", "answered", "(I)V"⟩
def M_Mdl_answered : ex_M := ("FrontCacheModel", y_Mdl_answered, prog_13_method_44_code, 10, none, Cond.code y_Mdl_answered prog_13_method_44_code 10 none :: ex_WS)
def y_Mdl_storable : MethodName := ⟨"FrontCacheModel", "storable", "(II)Z"⟩
def M_Mdl_storable : ex_M := ("FrontCacheModel", y_Mdl_storable, prog_13_method_6_code, 2, (some FieldType.boolean), Cond.code y_Mdl_storable prog_13_method_6_code 2 (some FieldType.boolean) :: ex_WS)
def y_Mdl_store : MethodName := ⟨"FrontCacheModel", "store", "(II)V"⟩
def M_Mdl_store : ex_M := ("FrontCacheModel", y_Mdl_store, prog_13_method_23_code, 6, none, Cond.code y_Mdl_store prog_13_method_23_code 6 none :: ex_WS)
def y_Mdl_drop : MethodName := ⟨"FrontCacheModel", "drop", "(IIZ)V"⟩
def M_Mdl_drop : ex_M := ("FrontCacheModel", y_Mdl_drop, prog_13_method_21_code, 5, none, Cond.code y_Mdl_drop prog_13_method_21_code 5 none :: ex_WS)
def y_Mdl_takeAway : MethodName := ⟨"FrontCacheModel", "takeAway", "(I)V"⟩
def M_Mdl_takeAway : ex_M := ("FrontCacheModel", y_Mdl_takeAway, prog_13_method_19_code, 3, none, Cond.code y_Mdl_takeAway prog_13_method_19_code 3 none :: ex_WS)
def y_Mdl_filled : MethodName := ⟨"FrontCacheModel", "filled", "()I"⟩
def M_Mdl_filled : ex_M := ("FrontCacheModel", y_Mdl_filled, prog_13_method_22_code, 3, (some FieldType.int), Cond.code y_Mdl_filled prog_13_method_22_code 3 (some FieldType.int) :: ex_WS)
def y_Mdl_byName : MethodName := ⟨"FrontCacheModel", "byName", "(I)I"⟩
def M_Mdl_byName : ex_M := ("FrontCacheModel", y_Mdl_byName, prog_13_method_18_code, 3, (some FieldType.int), Cond.code y_Mdl_byName prog_13_method_18_code 3 (some FieldType.int) :: ex_WS)
def y_Mdl_confirm : MethodName := ⟨"FrontCacheModel", "confirm", "(IZ)V"⟩
def M_Mdl_confirm : ex_M := ("FrontCacheModel", y_Mdl_confirm, prog_13_method_45_code, 4, none, Cond.code y_Mdl_confirm prog_13_method_45_code 4 none :: ex_WS)
def y_Mdl_lose : MethodName := ⟨"FrontCacheModel", "lose", "(I)Z"⟩
def M_Mdl_lose : ex_M := ("FrontCacheModel", y_Mdl_lose, prog_13_method_46_code, 2, (some FieldType.boolean), Cond.code y_Mdl_lose prog_13_method_46_code 2 (some FieldType.boolean) :: ex_WS)
def y_Mdl_copy : MethodName := ⟨"FrontCacheModel", "copy", "(I)Z"⟩
def M_Mdl_copy : ex_M := ("FrontCacheModel", y_Mdl_copy, prog_13_method_47_code, 2, (some FieldType.boolean), Cond.code y_Mdl_copy prog_13_method_47_code 2 (some FieldType.boolean) :: ex_WS)
def y_Mdl_power : MethodName := ⟨"FrontCacheModel", "power", "(IZ)Z"⟩
def M_Mdl_power : ex_M := ("FrontCacheModel", y_Mdl_power, prog_13_method_48_code, 3, (some FieldType.boolean), Cond.code y_Mdl_power prog_13_method_48_code 3 (some FieldType.boolean) :: ex_WS)
def y_Mdl_isOrigin : MethodName := ⟨"FrontCacheModel", "isOrigin", "(I)Z"⟩
def M_Mdl_isOrigin : ex_M := ("FrontCacheModel", y_Mdl_isOrigin, prog_13_method_8_code, 1, (some FieldType.boolean), Cond.code y_Mdl_isOrigin prog_13_method_8_code 1 (some FieldType.boolean) :: ex_WS)
def y_Mdl_answer : MethodName := ⟨"FrontCacheModel", "answer", "(II)I"⟩
def M_Mdl_answer : ex_M := ("FrontCacheModel", y_Mdl_answer, prog_13_method_49_code, 4, (some FieldType.int), Cond.code y_Mdl_answer prog_13_method_49_code 4 (some FieldType.int) :: ex_WS)
def y_Mdl_flights : MethodName := ⟨"FrontCacheModel", "flights", "()I"⟩
def M_Mdl_flights : ex_M := ("FrontCacheModel", y_Mdl_flights, prog_13_method_50_code, 1, (some FieldType.int), Cond.code y_Mdl_flights prog_13_method_50_code 1 (some FieldType.int) :: ex_WS)
def y_Mdl_flight : MethodName := ⟨"FrontCacheModel", "flight", "(II)I"⟩
def M_Mdl_flight : ex_M := ("FrontCacheModel", y_Mdl_flight, prog_13_method_51_code, 4, (some FieldType.int), Cond.code y_Mdl_flight prog_13_method_51_code 4 (some FieldType.int) :: ex_WS)
def y_Mdl_entries : MethodName := ⟨"FrontCacheModel", "entries", "()I"⟩
def M_Mdl_entries : ex_M := ("FrontCacheModel", y_Mdl_entries, prog_13_method_52_code, 1, (some FieldType.int), Cond.code y_Mdl_entries prog_13_method_52_code 1 (some FieldType.int) :: ex_WS)
def y_Mdl_entry : MethodName := ⟨"FrontCacheModel", "entry", "(II)I"⟩
def M_Mdl_entry : ex_M := ("FrontCacheModel", y_Mdl_entry, prog_13_method_53_code, 4, (some FieldType.int), Cond.code y_Mdl_entry prog_13_method_53_code 4 (some FieldType.int) :: ex_WS)
def y_Mdl_waiting : MethodName := ⟨"FrontCacheModel", "waiting", "(I)I"⟩
def M_Mdl_waiting : ex_M := ("FrontCacheModel", y_Mdl_waiting, prog_13_method_54_code, 2, (some FieldType.int), Cond.code y_Mdl_waiting prog_13_method_54_code 2 (some FieldType.int) :: ex_WS)
def M_Law_law : ex_M := ("FrontCacheLaw", x, code, 4, ret, Cond.initialized "FrontCacheLaw" :: ex_WS)
