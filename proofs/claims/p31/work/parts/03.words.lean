set_option maxRecDepth 8000 in
theorem wI_L : Cond.initialized "CavershamShiftLaw" ∈ ALLW := wAll (wT1 0 rfl) rfl
set_option maxRecDepth 8000 in
theorem wI_X10 : Cond.initialized "CavershamShift" ∈ ALLW := wAll (wT1 1 rfl) rfl
set_option maxRecDepth 8000 in
theorem wI_X0 : Cond.initialized "CavershamShift$Dial" ∈ ALLW := wAll (wT1 2 rfl) rfl
set_option maxRecDepth 8000 in
theorem wI_Jxa1e45 : Cond.initialized "java/util/AbstractCollection" ∈ ALLW := wAll (wT1 3 rfl) rfl
set_option maxRecDepth 8000 in
theorem wI_Jxc12de : Cond.initialized "java/util/AbstractList" ∈ ALLW := wAll (wT1 4 rfl) rfl
set_option maxRecDepth 8000 in
theorem wI_Jx4a65c : Cond.initialized "java/util/ArrayList" ∈ ALLW := wAll (wT1 5 rfl) rfl
set_option maxRecDepth 8000 in
theorem wI_X7 : Cond.initialized "CavershamShift$Room" ∈ ALLW := wAll (wT1 6 rfl) rfl
set_option maxRecDepth 8000 in
theorem wI_J7 : Cond.initialized "java/util/Arrays" ∈ ALLW := wAll (wT1 7 rfl) rfl
set_option maxRecDepth 8000 in
theorem wI_X4 : Cond.initialized "CavershamShift$Newsroom" ∈ ALLW := wAll (wT1 8 rfl) rfl
set_option maxRecDepth 8000 in
theorem wI_X2 : Cond.initialized "CavershamShift$Matching" ∈ ALLW := wAll (wT1 9 rfl) rfl
set_option maxRecDepth 8000 in
theorem wI_X16 : Cond.initialized "CavershamShiftModel" ∈ ALLW := wAll (wT1 10 rfl) rfl
set_option maxRecDepth 8000 in
theorem wI_X11 : Cond.initialized "CavershamShiftLaw$Out" ∈ ALLW := wAll (wT1 11 rfl) rfl
set_option maxRecDepth 8000 in
theorem wI_java_lang_IllegalArgumentException : Cond.initialized "java/lang/IllegalArgumentException" ∈ ALLW := wAll (wT1 15 rfl) rfl
set_option maxRecDepth 8000 in
theorem wI_java_lang_IllegalStateException : Cond.initialized "java/lang/IllegalStateException" ∈ ALLW := wAll (wT1 16 rfl) rfl
set_option maxRecDepth 8000 in
theorem wI_X8 : Cond.initialized "CavershamShift$Station" ∈ ALLW := wAll (wT1 17 rfl) rfl
set_option maxRecDepth 8000 in
theorem wI_J8 : Cond.initialized "jdk/internal/util/ArraysSupport" ∈ ALLW := wAll (wT1 18 rfl) rfl
set_option maxRecDepth 8000 in
theorem wI_J9 : Cond.initialized "java/lang/Math" ∈ ALLW := wAll (wT1 19 rfl) rfl
set_option maxRecDepth 8000 in
theorem wI_J10 : Cond.initialized "java/lang/System" ∈ ALLW := wAll (wT1 20 rfl) rfl
set_option maxRecDepth 8000 in
theorem wI_X14 : Cond.initialized "CavershamShiftModel$Station" ∈ ALLW := wAll (wT1 21 rfl) rfl
set_option maxRecDepth 8000 in
theorem wI_J15 : Cond.initialized "java/util/Objects" ∈ ALLW := wAll (wT1 22 rfl) rfl
set_option maxRecDepth 8000 in
theorem wI_J3 : Cond.initialized "jdk/internal/util/Preconditions" ∈ ALLW := wAll (wT1 23 rfl) rfl
set_option maxRecDepth 8000 in
theorem wI_java_lang_IndexOutOfBoundsException : Cond.initialized "java/lang/IndexOutOfBoundsException" ∈ ALLW := wAll (wT1 24 rfl) rfl
set_option maxRecDepth 8000 in
theorem wI_X1 : Cond.initialized "CavershamShift$Jammer" ∈ ALLW := wAll (wT1 25 rfl) rfl
set_option maxRecDepth 8000 in
theorem wI_X3 : Cond.initialized "CavershamShift$Monitor" ∈ ALLW := wAll (wT1 26 rfl) rfl
set_option maxRecDepth 8000 in
theorem wI_X12 : Cond.initialized "CavershamShiftModel$Monitor" ∈ ALLW := wAll (wT1 27 rfl) rfl
set_option maxRecDepth 8000 in
theorem wI_X9 : Cond.initialized "CavershamShift$Talk" ∈ ALLW := wAll (wT1 28 rfl) rfl
set_option maxRecDepth 8000 in
theorem wI_X15 : Cond.initialized "CavershamShiftModel$Talk" ∈ ALLW := wAll (wT1 29 rfl) rfl
set_option maxRecDepth 8000 in
theorem wI_J6 : Cond.initialized "java/lang/Integer" ∈ ALLW := wAll (wT1 31 rfl) rfl
set_option maxRecDepth 8000 in
theorem wI_Jxabbfe : Cond.initialized "java/lang/Integer$IntegerCache" ∈ ALLW := wAll (wT1 32 rfl) rfl
set_option maxRecDepth 8000 in
theorem wI_X5 : Cond.initialized "CavershamShift$Reader" ∈ ALLW := wAll (wT1 33 rfl) rfl
set_option maxRecDepth 8000 in
theorem wI_X13 : Cond.initialized "CavershamShiftModel$Reader" ∈ ALLW := wAll (wT1 34 rfl) rfl
set_option maxRecDepth 8000 in
theorem wI_X6 : Cond.initialized "CavershamShift$Report" ∈ ALLW := wAll (wT1 35 rfl) rfl
set_option maxRecDepth 8000 in
theorem wI_J5 : Cond.initialized "java/lang/AbstractStringBuilder" ∈ ALLW := wAll (wT1 36 rfl) rfl
set_option maxRecDepth 8000 in
theorem wI_J4 : Cond.initialized "java/lang/StringBuilder" ∈ ALLW := wAll (wT1 37 rfl) rfl
set_option maxRecDepth 8000 in
theorem wI_J0 : Cond.initialized "java/lang/String" ∈ ALLW := wAll (wT1 38 rfl) rfl
set_option maxRecDepth 8000 in
theorem wC_L_8 : Cond.classLink "CavershamShiftLaw" 8 "CavershamShift" ∈ ALLW := wAll (wT1 41 rfl) rfl
set_option maxRecDepth 8000 in
theorem wNew_X10 : Cond.instantiable "CavershamShift" 6 ∈ ALLW := wAll (wT1 42 rfl) rfl
set_option maxRecDepth 8000 in
theorem wM_L_127 : Cond.methodLink "CavershamShiftLaw" 127 yX10_init ∈ ALLW := wAll (wT1 43 rfl) rfl
set_option maxRecDepth 8000 in
theorem wIn_X10_init : Cond.instanceMethod yX10_init ∈ ALLW := wAll (wT1 44 rfl) rfl
set_option maxRecDepth 8000 in
theorem wY_X10_init : Cond.code yX10_init cX10_init 1 (none) ∈ ALLW := wAll (wT1 45 rfl) rfl
set_option maxRecDepth 8000 in
theorem wM_X10_3 : Cond.methodLink "CavershamShift" 3 objectInit ∈ ALLW := wAll (wT1 46 rfl) rfl
set_option maxRecDepth 8000 in
theorem wIn_O_init : Cond.instanceMethod objectInit ∈ ALLW := wAll (wT1 47 rfl) rfl
set_option maxRecDepth 8000 in
theorem wY_O_init : Cond.code objectInit object_method_1_code 1 (none) ∈ ALLW := wAll (wT1 48 rfl) rfl
set_option maxRecDepth 8000 in
theorem wC_X10_9 : Cond.classLink "CavershamShift" 9 "CavershamShift$Dial" ∈ ALLW := wAll (wT1 49 rfl) rfl
set_option maxRecDepth 8000 in
theorem wNew_X0 : Cond.instantiable "CavershamShift$Dial" 2 ∈ ALLW := wAll (wT1 50 rfl) rfl
set_option maxRecDepth 8000 in
theorem wMN_X10_11 : Cond.methodLinkNest "CavershamShift" 11 yX0_init "CavershamShift" ∈ NSTW := wNst (wT1 51 rfl) rfl
set_option maxRecDepth 8000 in
theorem wIn_X0_init : Cond.instanceMethod yX0_init ∈ ALLW := wAll (wT1 52 rfl) rfl
set_option maxRecDepth 8000 in
theorem wY_X0_init : Cond.code yX0_init cX0_init 1 (none) ∈ ALLW := wAll (wT1 53 rfl) rfl
set_option maxRecDepth 8000 in
theorem wM_X0_1 : Cond.methodLink "CavershamShift$Dial" 1 objectInit ∈ ALLW := wAll (wT1 54 rfl) rfl
set_option maxRecDepth 8000 in
theorem wC_X0_7 : Cond.classLink "CavershamShift$Dial" 7 "java/util/ArrayList" ∈ ALLW := wAll (wT1 55 rfl) rfl
set_option maxRecDepth 8000 in
theorem wNew_Jx4a65c : Cond.instantiable "java/util/ArrayList" 3 ∈ ALLW := wAll (wT1 56 rfl) rfl
set_option maxRecDepth 8000 in
theorem wM_X0_9 : Cond.methodLink "CavershamShift$Dial" 9 yJx4a65c_init_da8c8 ∈ ALLW := wAll (wT1 57 rfl) rfl
set_option maxRecDepth 8000 in
theorem wIn_Jx4a65c_init_da8c8 : Cond.instanceMethod yJx4a65c_init_da8c8 ∈ ALLW := wAll (wT1 58 rfl) rfl
set_option maxRecDepth 8000 in
theorem wY_Jx4a65c_init_da8c8 : Cond.code yJx4a65c_init_da8c8 cJx4a65c_init_da8c8 1 (none) ∈ ALLW := wAll (wT1 59 rfl) rfl
set_option maxRecDepth 8000 in
theorem wM_Jx4a65c_1 : Cond.methodLink "java/util/ArrayList" 1 yJxc12de_init_da8c8 ∈ ALLW := wAll (wT1 60 rfl) rfl
set_option maxRecDepth 8000 in
theorem wIn_Jxc12de_init_da8c8 : Cond.instanceMethod yJxc12de_init_da8c8 ∈ ALLW := wAll (wT1 61 rfl) rfl
set_option maxRecDepth 8000 in
theorem wY_Jxc12de_init_da8c8 : Cond.code yJxc12de_init_da8c8 cJxc12de_init_da8c8 1 (none) ∈ ALLW := wAll (wT1 62 rfl) rfl
set_option maxRecDepth 8000 in
theorem wM_Jxc12de_1 : Cond.methodLink "java/util/AbstractList" 1 yJxa1e45_init_da8c8 ∈ ALLW := wAll (wT1 63 rfl) rfl
set_option maxRecDepth 8000 in
theorem wIn_Jxa1e45_init_da8c8 : Cond.instanceMethod yJxa1e45_init_da8c8 ∈ ALLW := wAll (wT1 64 rfl) rfl
set_option maxRecDepth 8000 in
theorem wY_Jxa1e45_init_da8c8 : Cond.code yJxa1e45_init_da8c8 cJxa1e45_init_da8c8 1 (none) ∈ ALLW := wAll (wT1 65 rfl) rfl
set_option maxRecDepth 8000 in
theorem wM_Jxa1e45_1 : Cond.methodLink "java/util/AbstractCollection" 1 objectInit ∈ ALLW := wAll (wT1 66 rfl) rfl
set_option maxRecDepth 8000 in
theorem wF_Jx4a65c_39 : Cond.fieldLink "java/util/ArrayList" 39 "java/util/ArrayList" "DEFAULTCAPACITY_EMPTY_ELEMENTDATA" "[Ljava/lang/Object;" ∈ ALLW := wAll (wT1 67 rfl) rfl
set_option maxRecDepth 8000 in
theorem wLS_Jx4a65c_DEFAULTCAPACITY_EMPTY_ELEMENTDATA : Cond.laysStatic "java/util/ArrayList" "DEFAULTCAPACITY_EMPTY_ELEMENTDATA" "[Ljava/lang/Object;" ∈ lw_tbl := wT1 68 rfl
set_option maxRecDepth 8000 in
theorem wF_Jx4a65c_9 : Cond.fieldLink "java/util/ArrayList" 9 "java/util/ArrayList" "elementData" "[Ljava/lang/Object;" ∈ ALLW := wAll (wT1 69 rfl) rfl
set_option maxRecDepth 8000 in
theorem wF_Jx4a65c_48 : Cond.fieldLink "java/util/ArrayList" 48 "java/util/ArrayList" "size" "I" ∈ ALLW := wAll (wT1 70 rfl) rfl
set_option maxRecDepth 8000 in
theorem wF_Jxc12de_7 : Cond.fieldLink "java/util/AbstractList" 7 "java/util/AbstractList" "modCount" "I" ∈ ALLW := wAll (wT1 71 rfl) rfl
set_option maxRecDepth 8000 in
theorem wF_Jx4a65c_63 : Cond.fieldLink "java/util/ArrayList" 63 "java/util/ArrayList" "modCount" "I" ∈ ALLW := wAll (wT1 72 rfl) rfl
set_option maxRecDepth 8000 in
theorem wZ_73 : Cond.sameField "java/util/ArrayList" "java/util/AbstractList" "modCount" "I" ∈ ALLW := wAll (wT1 73 rfl) rfl
set_option maxRecDepth 8000 in
theorem wF_X0_10 : Cond.fieldLink "CavershamShift$Dial" 10 "CavershamShift$Dial" "stations" "Ljava/util/ArrayList;" ∈ ALLW := wAll (wT1 81 rfl) rfl
set_option maxRecDepth 8000 in
theorem wF_X10_62 : Cond.fieldLink "CavershamShift" 62 "CavershamShift$Dial" "stations" "Ljava/util/ArrayList;" ∈ ALLW := wAll (wT1 82 rfl) rfl
set_option maxRecDepth 8000 in
theorem wF_X2_75 : Cond.fieldLink "CavershamShift$Matching" 75 "CavershamShift$Dial" "stations" "Ljava/util/ArrayList;" ∈ ALLW := wAll (wT1 83 rfl) rfl
set_option maxRecDepth 8000 in
theorem wF_X0_16 : Cond.fieldLink "CavershamShift$Dial" 16 "CavershamShift$Dial" "jammers" "Ljava/util/ArrayList;" ∈ ALLW := wAll (wT1 84 rfl) rfl
set_option maxRecDepth 8000 in
theorem wF_X10_101 : Cond.fieldLink "CavershamShift" 101 "CavershamShift$Dial" "jammers" "Ljava/util/ArrayList;" ∈ ALLW := wAll (wT1 85 rfl) rfl
set_option maxRecDepth 8000 in
theorem wC_X10_16 : Cond.classLink "CavershamShift" 16 "CavershamShift$Room" ∈ ALLW := wAll (wT1 91 rfl) rfl
set_option maxRecDepth 8000 in
theorem wNew_X7 : Cond.instantiable "CavershamShift$Room" 4 ∈ ALLW := wAll (wT1 92 rfl) rfl
set_option maxRecDepth 8000 in
theorem wM_X10_18 : Cond.methodLink "CavershamShift" 18 yX7_init ∈ ALLW := wAll (wT1 93 rfl) rfl
set_option maxRecDepth 8000 in
theorem wIn_X7_init : Cond.instanceMethod yX7_init ∈ ALLW := wAll (wT1 94 rfl) rfl
set_option maxRecDepth 8000 in
theorem wY_X7_init : Cond.code yX7_init cX7_init 2 (none) ∈ ALLW := wAll (wT1 95 rfl) rfl
set_option maxRecDepth 8000 in
theorem wM_X7_3 : Cond.methodLink "CavershamShift$Room" 3 objectInit ∈ ALLW := wAll (wT1 96 rfl) rfl
set_option maxRecDepth 8000 in
theorem wC_X7_9 : Cond.classLink "CavershamShift$Room" 9 "java/util/ArrayList" ∈ ALLW := wAll (wT1 97 rfl) rfl
set_option maxRecDepth 8000 in
theorem wM_X7_11 : Cond.methodLink "CavershamShift$Room" 11 yJx4a65c_init_da8c8 ∈ ALLW := wAll (wT1 98 rfl) rfl
set_option maxRecDepth 8000 in
theorem wM_X7_29 : Cond.methodLink "CavershamShift$Room" 29 yJ7_fill_53178 ∈ ALLW := wAll (wT1 99 rfl) rfl
set_option maxRecDepth 8000 in
theorem wSt_J7_fill_53178 : Cond.static yJ7_fill_53178 ∈ ALLW := wAll (wT1 100 rfl) rfl
set_option maxRecDepth 8000 in
theorem wY_J7_fill_53178 : Cond.code yJ7_fill_53178 cJ7_fill_53178 4 (none) ∈ ALLW := wAll (wT1 101 rfl) rfl
set_option maxRecDepth 8000 in
theorem wF_X7_25 : Cond.fieldLink "CavershamShift$Room" 25 "CavershamShift$Room" "dial" "LCavershamShift$Dial;" ∈ ALLW := wAll (wT1 102 rfl) rfl
set_option maxRecDepth 8000 in
theorem wF_X7_12 : Cond.fieldLink "CavershamShift$Room" 12 "CavershamShift$Room" "monitors" "Ljava/util/ArrayList;" ∈ ALLW := wAll (wT1 103 rfl) rfl
set_option maxRecDepth 8000 in
theorem wF_X10_124 : Cond.fieldLink "CavershamShift" 124 "CavershamShift$Room" "monitors" "Ljava/util/ArrayList;" ∈ ALLW := wAll (wT1 104 rfl) rfl
set_option maxRecDepth 8000 in
theorem wF_X7_18 : Cond.fieldLink "CavershamShift$Room" 18 "CavershamShift$Room" "stationOfSlot" "[I" ∈ ALLW := wAll (wT1 105 rfl) rfl
set_option maxRecDepth 8000 in
theorem wF_X7_22 : Cond.fieldLink "CavershamShift$Room" 22 "CavershamShift$Room" "monitorOfSlot" "[I" ∈ ALLW := wAll (wT1 106 rfl) rfl
set_option maxRecDepth 8000 in
theorem wA_int : Cond.arrayClass .int ∈ ALLW := wAll (wT1 116 rfl) rfl
set_option maxRecDepth 8000 in
theorem wC_X10_25 : Cond.classLink "CavershamShift" 25 "CavershamShift$Newsroom" ∈ ALLW := wAll (wT1 117 rfl) rfl
set_option maxRecDepth 8000 in
theorem wNew_X4 : Cond.instantiable "CavershamShift$Newsroom" 7 ∈ ALLW := wAll (wT1 118 rfl) rfl
set_option maxRecDepth 8000 in
theorem wMN_X10_27 : Cond.methodLinkNest "CavershamShift" 27 yX4_init "CavershamShift" ∈ NSTW := wNst (wT1 119 rfl) rfl
set_option maxRecDepth 8000 in
theorem wIn_X4_init : Cond.instanceMethod yX4_init ∈ ALLW := wAll (wT1 120 rfl) rfl
set_option maxRecDepth 8000 in
theorem wY_X4_init : Cond.code yX4_init cX4_init 1 (none) ∈ ALLW := wAll (wT1 121 rfl) rfl
set_option maxRecDepth 8000 in
theorem wM_X4_3 : Cond.methodLink "CavershamShift$Newsroom" 3 objectInit ∈ ALLW := wAll (wT1 122 rfl) rfl
set_option maxRecDepth 8000 in
theorem wC_X4_9 : Cond.classLink "CavershamShift$Newsroom" 9 "java/util/ArrayList" ∈ ALLW := wAll (wT1 123 rfl) rfl
set_option maxRecDepth 8000 in
theorem wM_X4_11 : Cond.methodLink "CavershamShift$Newsroom" 11 yJx4a65c_init_da8c8 ∈ ALLW := wAll (wT1 124 rfl) rfl
set_option maxRecDepth 8000 in
theorem wF_X4_12 : Cond.fieldLink "CavershamShift$Newsroom" 12 "CavershamShift$Newsroom" "talks" "Ljava/util/ArrayList;" ∈ ALLW := wAll (wT1 125 rfl) rfl
set_option maxRecDepth 8000 in
theorem wF_X10_162 : Cond.fieldLink "CavershamShift" 162 "CavershamShift$Newsroom" "talks" "Ljava/util/ArrayList;" ∈ ALLW := wAll (wT1 126 rfl) rfl
set_option maxRecDepth 8000 in
theorem wF_X4_18 : Cond.fieldLink "CavershamShift$Newsroom" 18 "CavershamShift$Newsroom" "readers" "Ljava/util/ArrayList;" ∈ ALLW := wAll (wT1 127 rfl) rfl
set_option maxRecDepth 8000 in
theorem wF_X10_207 : Cond.fieldLink "CavershamShift" 207 "CavershamShift$Newsroom" "readers" "Ljava/util/ArrayList;" ∈ ALLW := wAll (wT1 128 rfl) rfl
set_option maxRecDepth 8000 in
theorem wF_X4_21 : Cond.fieldLink "CavershamShift$Newsroom" 21 "CavershamShift$Newsroom" "corrections" "Ljava/util/ArrayList;" ∈ ALLW := wAll (wT1 129 rfl) rfl
set_option maxRecDepth 8000 in
theorem wF_X10_527 : Cond.fieldLink "CavershamShift" 527 "CavershamShift$Newsroom" "corrections" "Ljava/util/ArrayList;" ∈ ALLW := wAll (wT1 130 rfl) rfl
set_option maxRecDepth 8000 in
theorem wF_X4_122 : Cond.fieldLink "CavershamShift$Newsroom" 122 "CavershamShift$Newsroom" "correctionsSent" "I" ∈ ALLW := wAll (wT1 131 rfl) rfl
set_option maxRecDepth 8000 in
theorem wF_X10_530 : Cond.fieldLink "CavershamShift" 530 "CavershamShift$Newsroom" "correctionsSent" "I" ∈ ALLW := wAll (wT1 132 rfl) rfl
set_option maxRecDepth 8000 in
theorem wF_X4_106 : Cond.fieldLink "CavershamShift$Newsroom" 106 "CavershamShift$Newsroom" "reportsSent" "I" ∈ ALLW := wAll (wT1 133 rfl) rfl
set_option maxRecDepth 8000 in
theorem wF_X4_24 : Cond.fieldLink "CavershamShift$Newsroom" 24 "CavershamShift$Newsroom" "wordsLeft" "I" ∈ ALLW := wAll (wT1 134 rfl) rfl
set_option maxRecDepth 8000 in
theorem wF_X10_437 : Cond.fieldLink "CavershamShift" 437 "CavershamShift$Newsroom" "wordsLeft" "I" ∈ ALLW := wAll (wT1 135 rfl) rfl
set_option maxRecDepth 8000 in
theorem wF_X4_59 : Cond.fieldLink "CavershamShift$Newsroom" 59 "CavershamShift$Newsroom" "partnerLands" "I" ∈ ALLW := wAll (wT1 136 rfl) rfl
set_option maxRecDepth 8000 in
theorem wF_X10_234 : Cond.fieldLink "CavershamShift" 234 "CavershamShift$Newsroom" "partnerLands" "I" ∈ ALLW := wAll (wT1 137 rfl) rfl
set_option maxRecDepth 8000 in
theorem wC_X10_32 : Cond.classLink "CavershamShift" 32 "CavershamShift$Matching" ∈ ALLW := wAll (wT1 153 rfl) rfl
set_option maxRecDepth 8000 in
theorem wNew_X2 : Cond.instantiable "CavershamShift$Matching" 5 ∈ ALLW := wAll (wT1 154 rfl) rfl
set_option maxRecDepth 8000 in
theorem wM_X10_34 : Cond.methodLink "CavershamShift" 34 yX2_init ∈ ALLW := wAll (wT1 155 rfl) rfl
set_option maxRecDepth 8000 in
theorem wIn_X2_init : Cond.instanceMethod yX2_init ∈ ALLW := wAll (wT1 156 rfl) rfl
set_option maxRecDepth 8000 in
theorem wY_X2_init : Cond.code yX2_init cX2_init 3 (none) ∈ ALLW := wAll (wT1 157 rfl) rfl
set_option maxRecDepth 8000 in
theorem wM_X2_3 : Cond.methodLink "CavershamShift$Matching" 3 objectInit ∈ ALLW := wAll (wT1 158 rfl) rfl
set_option maxRecDepth 8000 in
theorem wF_X2_21 : Cond.fieldLink "CavershamShift$Matching" 21 "CavershamShift$Matching" "dial" "LCavershamShift$Dial;" ∈ ALLW := wAll (wT1 159 rfl) rfl
set_option maxRecDepth 8000 in
theorem wF_X2_25 : Cond.fieldLink "CavershamShift$Matching" 25 "CavershamShift$Matching" "room" "LCavershamShift$Room;" ∈ ALLW := wAll (wT1 160 rfl) rfl
set_option maxRecDepth 8000 in
theorem wF_X2_11 : Cond.fieldLink "CavershamShift$Matching" 11 "CavershamShift$Matching" "qualities" "[I" ∈ ALLW := wAll (wT1 161 rfl) rfl
set_option maxRecDepth 8000 in
theorem wF_X2_15 : Cond.fieldLink "CavershamShift$Matching" 15 "CavershamShift$Matching" "sums" "[I" ∈ ALLW := wAll (wT1 162 rfl) rfl
set_option maxRecDepth 8000 in
theorem wF_X2_18 : Cond.fieldLink "CavershamShift$Matching" 18 "CavershamShift$Matching" "pairs" "[I" ∈ ALLW := wAll (wT1 163 rfl) rfl
set_option maxRecDepth 8000 in
theorem wF_X10_12 : Cond.fieldLink "CavershamShift" 12 "CavershamShift" "dial" "LCavershamShift$Dial;" ∈ ALLW := wAll (wT1 175 rfl) rfl
set_option maxRecDepth 8000 in
theorem wF_X10_21 : Cond.fieldLink "CavershamShift" 21 "CavershamShift" "room" "LCavershamShift$Room;" ∈ ALLW := wAll (wT1 176 rfl) rfl
set_option maxRecDepth 8000 in
theorem wF_X10_28 : Cond.fieldLink "CavershamShift" 28 "CavershamShift" "newsroom" "LCavershamShift$Newsroom;" ∈ ALLW := wAll (wT1 177 rfl) rfl
set_option maxRecDepth 8000 in
theorem wF_X10_37 : Cond.fieldLink "CavershamShift" 37 "CavershamShift" "matching" "LCavershamShift$Matching;" ∈ ALLW := wAll (wT1 178 rfl) rfl
set_option maxRecDepth 8000 in
theorem wF_X10_41 : Cond.fieldLink "CavershamShift" 41 "CavershamShift" "hour" "I" ∈ ALLW := wAll (wT1 179 rfl) rfl
set_option maxRecDepth 8000 in
theorem wF_X10_45 : Cond.fieldLink "CavershamShift" 45 "CavershamShift" "refused" "I" ∈ ALLW := wAll (wT1 180 rfl) rfl
set_option maxRecDepth 8000 in
theorem wM_L_175 : Cond.methodLink "CavershamShiftLaw" 175 yX10_call ∈ ALLW := wAll (wT1 194 rfl) rfl
set_option maxRecDepth 8000 in
theorem wIn_X10_call : Cond.instanceMethod yX10_call ∈ ALLW := wAll (wT1 195 rfl) rfl
set_option maxRecDepth 8000 in
theorem wSe_X10_X10_call : Cond.selects "CavershamShift" yX10_call yX10_call ∈ ALLW := wAll (wT1 196 rfl) rfl
set_option maxRecDepth 8000 in
theorem wY_X10_call : Cond.code yX10_call cX10_call 1 (Option.some .int) ∈ ALLW := wAll (wT1 197 rfl) rfl
set_option maxRecDepth 8000 in
theorem wM_L_238 : Cond.methodLink "CavershamShiftLaw" 238 yX10_wouldSend ∈ ALLW := wAll (wT1 198 rfl) rfl
set_option maxRecDepth 8000 in
theorem wIn_X10_wouldSend : Cond.instanceMethod yX10_wouldSend ∈ ALLW := wAll (wT1 199 rfl) rfl
set_option maxRecDepth 8000 in
theorem wSe_X10_X10_wouldSend : Cond.selects "CavershamShift" yX10_wouldSend yX10_wouldSend ∈ ALLW := wAll (wT1 200 rfl) rfl
set_option maxRecDepth 8000 in
theorem wY_X10_wouldSend : Cond.code yX10_wouldSend cX10_wouldSend 1 (Option.some .int) ∈ ALLW := wAll (wT1 201 rfl) rfl
set_option maxRecDepth 8000 in
theorem wM_X10_380 : Cond.methodLink "CavershamShift" 380 yX4_countToSend ∈ ALLW := wAll (wT1 202 rfl) rfl
set_option maxRecDepth 8000 in
theorem wIn_X4_countToSend : Cond.instanceMethod yX4_countToSend ∈ ALLW := wAll (wT1 203 rfl) rfl
set_option maxRecDepth 8000 in
theorem wSe_X4_X4_countToSend : Cond.selects "CavershamShift$Newsroom" yX4_countToSend yX4_countToSend ∈ ALLW := wAll (wT1 204 rfl) rfl
set_option maxRecDepth 8000 in
theorem wY_X4_countToSend : Cond.code yX4_countToSend cX4_countToSend 2 (Option.some .int) ∈ ALLW := wAll (wT1 205 rfl) rfl
set_option maxRecDepth 8000 in
theorem wM_X4_86 : Cond.methodLink "CavershamShift$Newsroom" 86 yX4_correctionsThatFit ∈ ALLW := wAll (wT1 206 rfl) rfl
set_option maxRecDepth 8000 in
theorem wIn_X4_correctionsThatFit : Cond.instanceMethod yX4_correctionsThatFit ∈ ALLW := wAll (wT1 208 rfl) rfl
set_option maxRecDepth 8000 in
theorem wY_X4_correctionsThatFit : Cond.code yX4_correctionsThatFit cX4_correctionsThatFit 1 (Option.some .int) ∈ ALLW := wAll (wT1 209 rfl) rfl
set_option maxRecDepth 8000 in
theorem wM_X4_28 : Cond.methodLink "CavershamShift$Newsroom" 28 yJx4a65c_size_8abf5 ∈ ALLW := wAll (wT1 210 rfl) rfl
set_option maxRecDepth 8000 in
theorem wIn_Jx4a65c_size_8abf5 : Cond.instanceMethod yJx4a65c_size_8abf5 ∈ ALLW := wAll (wT1 211 rfl) rfl
set_option maxRecDepth 8000 in
theorem wSe_Jx4a65c_Jx4a65c_size_8abf5 : Cond.selects "java/util/ArrayList" yJx4a65c_size_8abf5 yJx4a65c_size_8abf5 ∈ ALLW := wAll (wT1 212 rfl) rfl
set_option maxRecDepth 8000 in
theorem wY_Jx4a65c_size_8abf5 : Cond.code yJx4a65c_size_8abf5 cJx4a65c_size_8abf5 1 (Option.some .int) ∈ ALLW := wAll (wT1 213 rfl) rfl
set_option maxRecDepth 8000 in
theorem wM_X4_125 : Cond.methodLink "CavershamShift$Newsroom" 125 yJ9_min_7cf53 ∈ ALLW := wAll (wT1 214 rfl) rfl
set_option maxRecDepth 8000 in
theorem wSt_J9_min_7cf53 : Cond.static yJ9_min_7cf53 ∈ ALLW := wAll (wT1 215 rfl) rfl
set_option maxRecDepth 8000 in
theorem wY_J9_min_7cf53 : Cond.code yJ9_min_7cf53 cJ9_min_7cf53 2 (Option.some .int) ∈ ALLW := wAll (wT1 216 rfl) rfl
set_option maxRecDepth 8000 in
theorem wM_X4_82 : Cond.methodLink "CavershamShift$Newsroom" 82 yX4_sendReports ∈ ALLW := wAll (wT1 217 rfl) rfl
set_option maxRecDepth 8000 in
theorem wIn_X4_sendReports : Cond.instanceMethod yX4_sendReports ∈ ALLW := wAll (wT1 219 rfl) rfl
set_option maxRecDepth 8000 in
theorem wY_X4_sendReports : Cond.code yX4_sendReports cX4_sendReports 11 (Option.some .int) ∈ ALLW := wAll (wT1 220 rfl) rfl
set_option maxRecDepth 8000 in
theorem wM_X4_36 : Cond.methodLink "CavershamShift$Newsroom" 36 yJx4a65c_get_915e3 ∈ ALLW := wAll (wT1 221 rfl) rfl
set_option maxRecDepth 8000 in
theorem wIn_Jx4a65c_get_915e3 : Cond.instanceMethod yJx4a65c_get_915e3 ∈ ALLW := wAll (wT1 222 rfl) rfl
set_option maxRecDepth 8000 in
theorem wSe_Jx4a65c_Jx4a65c_get_915e3 : Cond.selects "java/util/ArrayList" yJx4a65c_get_915e3 yJx4a65c_get_915e3 ∈ ALLW := wAll (wT1 223 rfl) rfl
set_option maxRecDepth 8000 in
theorem wY_Jx4a65c_get_915e3 : Cond.code yJx4a65c_get_915e3 cJx4a65c_get_915e3 2 (Option.some (.object "java/lang/Object")) ∈ ALLW := wAll (wT1 224 rfl) rfl
set_option maxRecDepth 8000 in
theorem wM_Jx4a65c_118 : Cond.methodLink "java/util/ArrayList" 118 yJ15_checkIndex_7cf53 ∈ ALLW := wAll (wT1 225 rfl) rfl
set_option maxRecDepth 8000 in
theorem wSt_J15_checkIndex_7cf53 : Cond.static yJ15_checkIndex_7cf53 ∈ ALLW := wAll (wT1 226 rfl) rfl
set_option maxRecDepth 8000 in
theorem wY_J15_checkIndex_7cf53 : Cond.code yJ15_checkIndex_7cf53 cJ15_checkIndex_7cf53 2 (Option.some .int) ∈ ALLW := wAll (wT1 227 rfl) rfl
set_option maxRecDepth 8000 in
theorem wM_J15_105 : Cond.methodLink "java/util/Objects" 105 yJ3_checkIndex_8e157 ∈ ALLW := wAll (wT1 228 rfl) rfl
set_option maxRecDepth 8000 in
theorem wSt_J3_checkIndex_8e157 : Cond.static yJ3_checkIndex_8e157 ∈ ALLW := wAll (wT1 229 rfl) rfl
set_option maxRecDepth 8000 in
theorem wY_J3_checkIndex_8e157 : Cond.code yJ3_checkIndex_8e157 cJ3_checkIndex_8e157 3 (Option.some .int) ∈ ALLW := wAll (wT1 230 rfl) rfl
set_option maxRecDepth 8000 in
theorem wM_Jx4a65c_123 : Cond.methodLink "java/util/ArrayList" 123 yJx4a65c_elementData_915e3 ∈ ALLW := wAll (wT1 231 rfl) rfl
set_option maxRecDepth 8000 in
theorem wIn_Jx4a65c_elementData_915e3 : Cond.instanceMethod yJx4a65c_elementData_915e3 ∈ ALLW := wAll (wT1 232 rfl) rfl
set_option maxRecDepth 8000 in
theorem wSe_Jx4a65c_Jx4a65c_elementData_915e3 : Cond.selects "java/util/ArrayList" yJx4a65c_elementData_915e3 yJx4a65c_elementData_915e3 ∈ ALLW := wAll (wT1 233 rfl) rfl
set_option maxRecDepth 8000 in
theorem wY_Jx4a65c_elementData_915e3 : Cond.code yJx4a65c_elementData_915e3 cJx4a65c_elementData_915e3 2 (Option.some (.object "java/lang/Object")) ∈ ALLW := wAll (wT1 234 rfl) rfl
set_option maxRecDepth 8000 in
theorem wC_X4_40 : Cond.classLink "CavershamShift$Newsroom" 40 "CavershamShift$Talk" ∈ ALLW := wAll (wT1 235 rfl) rfl
set_option maxRecDepth 8000 in
theorem wM_X4_92 : Cond.methodLink "CavershamShift$Newsroom" 92 yX9_hasReportThatStands ∈ ALLW := wAll (wT1 236 rfl) rfl
set_option maxRecDepth 8000 in
theorem wIn_X9_hasReportThatStands : Cond.instanceMethod yX9_hasReportThatStands ∈ ALLW := wAll (wT1 237 rfl) rfl
set_option maxRecDepth 8000 in
theorem wSe_X9_X9_hasReportThatStands : Cond.selects "CavershamShift$Talk" yX9_hasReportThatStands yX9_hasReportThatStands ∈ ALLW := wAll (wT1 238 rfl) rfl
set_option maxRecDepth 8000 in
theorem wY_X9_hasReportThatStands : Cond.code yX9_hasReportThatStands cX9_hasReportThatStands 2 (Option.some .boolean) ∈ ALLW := wAll (wT1 239 rfl) rfl
set_option maxRecDepth 8000 in
theorem wM_X4_75 : Cond.methodLink "CavershamShift$Newsroom" 75 yX4_isTooOld ∈ ALLW := wAll (wT2 0 rfl) rfl
set_option maxRecDepth 8000 in
theorem wSt_X4_isTooOld : Cond.static yX4_isTooOld ∈ ALLW := wAll (wT2 1 rfl) rfl
set_option maxRecDepth 8000 in
theorem wY_X4_isTooOld : Cond.code yX4_isTooOld cX4_isTooOld 2 (Option.some .boolean) ∈ ALLW := wAll (wT2 2 rfl) rfl
set_option maxRecDepth 8000 in
theorem wM_X4_99 : Cond.methodLink "CavershamShift$Newsroom" 99 yX4_markSent ∈ ALLW := wAll (wT2 3 rfl) rfl
set_option maxRecDepth 8000 in
theorem wIn_X4_markSent : Cond.instanceMethod yX4_markSent ∈ ALLW := wAll (wT2 5 rfl) rfl
set_option maxRecDepth 8000 in
theorem wY_X4_markSent : Cond.code yX4_markSent cX4_markSent 5 (none) ∈ ALLW := wAll (wT2 6 rfl) rfl
set_option maxRecDepth 8000 in
theorem wC_X4_42 : Cond.classLink "CavershamShift$Newsroom" 42 "CavershamShift$Reader" ∈ ALLW := wAll (wT2 7 rfl) rfl
set_option maxRecDepth 8000 in
theorem wM_X4_112 : Cond.methodLink "CavershamShift$Newsroom" 112 yX9_isFor ∈ ALLW := wAll (wT2 8 rfl) rfl
set_option maxRecDepth 8000 in
theorem wIn_X9_isFor : Cond.instanceMethod yX9_isFor ∈ ALLW := wAll (wT2 9 rfl) rfl
set_option maxRecDepth 8000 in
theorem wSe_X9_X9_isFor : Cond.selects "CavershamShift$Talk" yX9_isFor yX9_isFor ∈ ALLW := wAll (wT2 10 rfl) rfl
set_option maxRecDepth 8000 in
theorem wY_X9_isFor : Cond.code yX9_isFor cX9_isFor 2 (Option.some .boolean) ∈ ALLW := wAll (wT2 11 rfl) rfl
set_option maxRecDepth 8000 in
theorem wMN_X9_53 : Cond.methodLinkNest "CavershamShift$Talk" 53 yX10_isIn "CavershamShift" ∈ NSTW := wNst (wT2 12 rfl) rfl
set_option maxRecDepth 8000 in
theorem wSt_X10_isIn : Cond.static yX10_isIn ∈ ALLW := wAll (wT2 13 rfl) rfl
set_option maxRecDepth 8000 in
theorem wY_X10_isIn : Cond.code yX10_isIn cX10_isIn 2 (Option.some .boolean) ∈ ALLW := wAll (wT2 14 rfl) rfl
set_option maxRecDepth 8000 in
theorem wM_X4_118 : Cond.methodLink "CavershamShift$Newsroom" 118 yX4_awaitCorrection ∈ ALLW := wAll (wT2 15 rfl) rfl
set_option maxRecDepth 8000 in
theorem wIn_X4_awaitCorrection : Cond.instanceMethod yX4_awaitCorrection ∈ ALLW := wAll (wT2 16 rfl) rfl
set_option maxRecDepth 8000 in
theorem wSe_X4_X4_awaitCorrection : Cond.selects "CavershamShift$Newsroom" yX4_awaitCorrection yX4_awaitCorrection ∈ ALLW := wAll (wT2 17 rfl) rfl
set_option maxRecDepth 8000 in
theorem wY_X4_awaitCorrection : Cond.code yX4_awaitCorrection cX4_awaitCorrection 3 (none) ∈ ALLW := wAll (wT2 18 rfl) rfl
set_option maxRecDepth 8000 in
theorem wM_X4_134 : Cond.methodLink "CavershamShift$Newsroom" 134 yX9_isInError ∈ ALLW := wAll (wT2 19 rfl) rfl
set_option maxRecDepth 8000 in
theorem wIn_X9_isInError : Cond.instanceMethod yX9_isInError ∈ ALLW := wAll (wT2 20 rfl) rfl
set_option maxRecDepth 8000 in
theorem wSe_X9_X9_isInError : Cond.selects "CavershamShift$Talk" yX9_isInError yX9_isInError ∈ ALLW := wAll (wT2 21 rfl) rfl
set_option maxRecDepth 8000 in
theorem wY_X9_isInError : Cond.code yX9_isInError cX9_isInError 2 (Option.some .boolean) ∈ ALLW := wAll (wT2 22 rfl) rfl
set_option maxRecDepth 8000 in
theorem wM_X9_57 : Cond.methodLink "CavershamShift$Talk" 57 yX6_formulas ∈ ALLW := wAll (wT2 23 rfl) rfl
set_option maxRecDepth 8000 in
theorem wIn_X6_formulas : Cond.instanceMethod yX6_formulas ∈ ALLW := wAll (wT2 24 rfl) rfl
set_option maxRecDepth 8000 in
theorem wSe_X6_X6_formulas : Cond.selects "CavershamShift$Report" yX6_formulas yX6_formulas ∈ ALLW := wAll (wT2 25 rfl) rfl
set_option maxRecDepth 8000 in
theorem wY_X6_formulas : Cond.code yX6_formulas cX6_formulas 1 (Option.some .int) ∈ ALLW := wAll (wT2 26 rfl) rfl
set_option maxRecDepth 8000 in
theorem wM_X4_138 : Cond.methodLink "CavershamShift$Newsroom" 138 yJx4a65c_add_9ea2d ∈ ALLW := wAll (wT2 27 rfl) rfl
set_option maxRecDepth 8000 in
theorem wIn_Jx4a65c_add_9ea2d : Cond.instanceMethod yJx4a65c_add_9ea2d ∈ ALLW := wAll (wT2 28 rfl) rfl
set_option maxRecDepth 8000 in
theorem wSe_Jx4a65c_Jx4a65c_add_9ea2d : Cond.selects "java/util/ArrayList" yJx4a65c_add_9ea2d yJx4a65c_add_9ea2d ∈ ALLW := wAll (wT2 29 rfl) rfl
set_option maxRecDepth 8000 in
theorem wY_Jx4a65c_add_9ea2d : Cond.code yJx4a65c_add_9ea2d cJx4a65c_add_9ea2d 2 (Option.some .boolean) ∈ ALLW := wAll (wT2 30 rfl) rfl
set_option maxRecDepth 8000 in
theorem wM_Jx4a65c_131 : Cond.methodLink "java/util/ArrayList" 131 yJx4a65c_add_72be8 ∈ ALLW := wAll (wT2 31 rfl) rfl
set_option maxRecDepth 8000 in
theorem wIn_Jx4a65c_add_72be8 : Cond.instanceMethod yJx4a65c_add_72be8 ∈ ALLW := wAll (wT2 33 rfl) rfl
set_option maxRecDepth 8000 in
theorem wY_Jx4a65c_add_72be8 : Cond.code yJx4a65c_add_72be8 cJx4a65c_add_72be8 4 (none) ∈ ALLW := wAll (wT2 34 rfl) rfl
set_option maxRecDepth 8000 in
theorem wM_Jx4a65c_129 : Cond.methodLink "java/util/ArrayList" 129 yJx4a65c_grow_d5877 ∈ ALLW := wAll (wT2 35 rfl) rfl
set_option maxRecDepth 8000 in
theorem wIn_Jx4a65c_grow_d5877 : Cond.instanceMethod yJx4a65c_grow_d5877 ∈ ALLW := wAll (wT2 37 rfl) rfl
set_option maxRecDepth 8000 in
theorem wY_Jx4a65c_grow_d5877 : Cond.code yJx4a65c_grow_d5877 cJx4a65c_grow_d5877 1 (Option.some (.array (.object "java/lang/Object"))) ∈ ALLW := wAll (wT2 38 rfl) rfl
set_option maxRecDepth 8000 in
theorem wM_Jx4a65c_69 : Cond.methodLink "java/util/ArrayList" 69 yJx4a65c_grow_92f84 ∈ ALLW := wAll (wT2 39 rfl) rfl
set_option maxRecDepth 8000 in
theorem wIn_Jx4a65c_grow_92f84 : Cond.instanceMethod yJx4a65c_grow_92f84 ∈ ALLW := wAll (wT2 41 rfl) rfl
set_option maxRecDepth 8000 in
theorem wY_Jx4a65c_grow_92f84 : Cond.code yJx4a65c_grow_92f84 cJx4a65c_grow_92f84 4 (Option.some (.array (.object "java/lang/Object"))) ∈ ALLW := wAll (wT2 42 rfl) rfl
set_option maxRecDepth 8000 in
theorem wM_Jx4a65c_73 : Cond.methodLink "java/util/ArrayList" 73 yJ8_newLength_cabcc ∈ ALLW := wAll (wT2 43 rfl) rfl
set_option maxRecDepth 8000 in
theorem wSt_J8_newLength_cabcc : Cond.static yJ8_newLength_cabcc ∈ ALLW := wAll (wT2 44 rfl) rfl
set_option maxRecDepth 8000 in
theorem wY_J8_newLength_cabcc : Cond.code yJ8_newLength_cabcc cJ8_newLength_cabcc 4 (Option.some .int) ∈ ALLW := wAll (wT2 45 rfl) rfl
set_option maxRecDepth 8000 in
theorem wM_J8_194 : Cond.methodLink "jdk/internal/util/ArraysSupport" 194 yJ9_max_7cf53 ∈ ALLW := wAll (wT2 46 rfl) rfl
set_option maxRecDepth 8000 in
theorem wSt_J9_max_7cf53 : Cond.static yJ9_max_7cf53 ∈ ALLW := wAll (wT2 47 rfl) rfl
set_option maxRecDepth 8000 in
theorem wY_J9_max_7cf53 : Cond.code yJ9_max_7cf53 cJ9_max_7cf53 2 (Option.some .int) ∈ ALLW := wAll (wT2 48 rfl) rfl
set_option maxRecDepth 8000 in
theorem wK_J8_200 : Cond.constant "jdk/internal/util/ArraysSupport" 200 (2147483639) ∈ ALLW := wAll (wT2 49 rfl) rfl
set_option maxRecDepth 8000 in
theorem wM_Jx4a65c_66 : Cond.methodLink "java/util/ArrayList" 66 yJ7_copyOf_1904c ∈ ALLW := wAll (wT2 53 rfl) rfl
set_option maxRecDepth 8000 in
theorem wSt_J7_copyOf_1904c : Cond.static yJ7_copyOf_1904c ∈ ALLW := wAll (wT2 54 rfl) rfl
set_option maxRecDepth 8000 in
theorem wY_J7_copyOf_1904c : Cond.code yJ7_copyOf_1904c cJ7_copyOf_1904c 2 (Option.some (.array (.object "java/lang/Object"))) ∈ ALLW := wAll (wT2 55 rfl) rfl
set_option maxRecDepth 8000 in
theorem wM_J7_86 : Cond.methodLink "java/util/Arrays" 86 ⟨"java/lang/Object", "getClass", "()Ljava/lang/Class;"⟩ ∈ ALLW := wAll (wT2 56 rfl) rfl
set_option maxRecDepth 8000 in
theorem wIn_java_lang_Object_getClass___Ljava_lang_Class_ : Cond.instanceMethod ⟨"java/lang/Object", "getClass", "()Ljava/lang/Class;"⟩ ∈ ALLW := wAll (wT2 57 rfl) rfl
set_option maxRecDepth 8000 in
theorem wNat_java_lang_Object_getClass___Ljava_lang_Class_ : Cond.native ⟨"java/lang/Object", "getClass", "()Ljava/lang/Class;"⟩ ∈ lw_tbl := wT2 83 rfl
set_option maxRecDepth 8000 in
theorem wM_J7_300 : Cond.methodLink "java/util/Arrays" 300 yJ7_copyOf_6403c ∈ ALLW := wAll (wT2 84 rfl) rfl
set_option maxRecDepth 8000 in
theorem wSt_J7_copyOf_6403c : Cond.static yJ7_copyOf_6403c ∈ ALLW := wAll (wT2 85 rfl) rfl
set_option maxRecDepth 8000 in
theorem wY_J7_copyOf_6403c : Cond.code yJ7_copyOf_6403c cJ7_copyOf_6403c 4 (Option.some (.array (.object "java/lang/Object"))) ∈ ALLW := wAll (wT2 86 rfl) rfl
set_option maxRecDepth 8000 in
theorem wC_J7_110 : Cond.classLink "java/util/Arrays" 110 "[Ljava/lang/Object;" ∈ ALLW := wAll (wT2 87 rfl) rfl
set_option maxRecDepth 8000 in
theorem wAO_java_lang_Object : Cond.arrayOver (.object "java/lang/Object") ∈ lw_tbl := wT2 88 rfl
set_option maxRecDepth 8000 in
theorem wC_J7_2 : Cond.classLink "java/util/Arrays" 2 "java/lang/Object" ∈ ALLW := wAll (wT2 89 rfl) rfl
set_option maxRecDepth 8000 in
theorem wM_J7_304 : Cond.methodLink "java/util/Arrays" 304 yJ9_min_7cf53 ∈ ALLW := wAll (wT2 90 rfl) rfl
set_option maxRecDepth 8000 in
theorem wM_J7_150 : Cond.methodLink "java/util/Arrays" 150 ⟨"java/lang/System", "arraycopy", "(Ljava/lang/Object;ILjava/lang/Object;II)V"⟩ ∈ ALLW := wAll (wT2 91 rfl) rfl
set_option maxRecDepth 8000 in
theorem wSt_java_lang_System_arraycopy__Ljava_lang_Object_ILjava_lang_Object_II_V : Cond.static ⟨"java/lang/System", "arraycopy", "(Ljava/lang/Object;ILjava/lang/Object;II)V"⟩ ∈ ALLW := wAll (wT2 92 rfl) rfl
set_option maxRecDepth 8000 in
theorem wNat_java_lang_System_arraycopy__Ljava_lang_Object_ILjava_lang_Object_II_V : Cond.native ⟨"java/lang/System", "arraycopy", "(Ljava/lang/Object;ILjava/lang/Object;II)V"⟩ ∈ lw_tbl := wT2 93 rfl
set_option maxRecDepth 8000 in
theorem wM_Jx4a65c_79 : Cond.methodLink "java/util/ArrayList" 79 yJ9_max_7cf53 ∈ ALLW := wAll (wT2 94 rfl) rfl
set_option maxRecDepth 8000 in
theorem wC_Jx4a65c_7 : Cond.classLink "java/util/ArrayList" 7 "java/lang/Object" ∈ ALLW := wAll (wT2 95 rfl) rfl
set_option maxRecDepth 8000 in
theorem wM_L_242 : Cond.methodLink "CavershamShiftLaw" 242 yX10_isSound ∈ ALLW := wAll (wT2 96 rfl) rfl
set_option maxRecDepth 8000 in
theorem wIn_X10_isSound : Cond.instanceMethod yX10_isSound ∈ ALLW := wAll (wT2 97 rfl) rfl
set_option maxRecDepth 8000 in
theorem wSe_X10_X10_isSound : Cond.selects "CavershamShift" yX10_isSound yX10_isSound ∈ ALLW := wAll (wT2 98 rfl) rfl
set_option maxRecDepth 8000 in
theorem wY_X10_isSound : Cond.code yX10_isSound cX10_isSound 1 (Option.some .boolean) ∈ ALLW := wAll (wT2 99 rfl) rfl
set_option maxRecDepth 8000 in
theorem wM_X10_383 : Cond.methodLink "CavershamShift" 383 yX7_isShiftSound ∈ ALLW := wAll (wT2 100 rfl) rfl
set_option maxRecDepth 8000 in
theorem wIn_X7_isShiftSound : Cond.instanceMethod yX7_isShiftSound ∈ ALLW := wAll (wT2 101 rfl) rfl
set_option maxRecDepth 8000 in
theorem wSe_X7_X7_isShiftSound : Cond.selects "CavershamShift$Room" yX7_isShiftSound yX7_isShiftSound ∈ ALLW := wAll (wT2 102 rfl) rfl
set_option maxRecDepth 8000 in
theorem wY_X7_isShiftSound : Cond.code yX7_isShiftSound cX7_isShiftSound 4 (Option.some .boolean) ∈ ALLW := wAll (wT2 103 rfl) rfl
set_option maxRecDepth 8000 in
theorem wM_X7_53 : Cond.methodLink "CavershamShift$Room" 53 yX7_monitorIn ∈ ALLW := wAll (wT2 104 rfl) rfl
set_option maxRecDepth 8000 in
theorem wIn_X7_monitorIn : Cond.instanceMethod yX7_monitorIn ∈ ALLW := wAll (wT2 105 rfl) rfl
set_option maxRecDepth 8000 in
theorem wSe_X7_X7_monitorIn : Cond.selects "CavershamShift$Room" yX7_monitorIn yX7_monitorIn ∈ ALLW := wAll (wT2 106 rfl) rfl
set_option maxRecDepth 8000 in
theorem wY_X7_monitorIn : Cond.code yX7_monitorIn cX7_monitorIn 3 (Option.some .int) ∈ ALLW := wAll (wT2 107 rfl) rfl
set_option maxRecDepth 8000 in
theorem wM_X7_49 : Cond.methodLink "CavershamShift$Room" 49 yX7_isSlot ∈ ALLW := wAll (wT2 108 rfl) rfl
set_option maxRecDepth 8000 in
theorem wSt_X7_isSlot : Cond.static yX7_isSlot ∈ ALLW := wAll (wT2 109 rfl) rfl
set_option maxRecDepth 8000 in
theorem wY_X7_isSlot : Cond.code yX7_isSlot cX7_isSlot 2 (Option.some .boolean) ∈ ALLW := wAll (wT2 110 rfl) rfl
set_option maxRecDepth 8000 in
theorem wMN_X7_39 : Cond.methodLinkNest "CavershamShift$Room" 39 yX10_isOutside "CavershamShift" ∈ NSTW := wNst (wT2 111 rfl) rfl
set_option maxRecDepth 8000 in
theorem wSt_X10_isOutside : Cond.static yX10_isOutside ∈ ALLW := wAll (wT2 112 rfl) rfl
set_option maxRecDepth 8000 in
theorem wY_X10_isOutside : Cond.code yX10_isOutside cX10_isOutside 3 (Option.some .boolean) ∈ ALLW := wAll (wT2 113 rfl) rfl
set_option maxRecDepth 8000 in
theorem wM_X7_108 : Cond.methodLink "CavershamShift$Room" 108 yX7_sitsElsewhere ∈ ALLW := wAll (wT2 114 rfl) rfl
set_option maxRecDepth 8000 in
theorem wIn_X7_sitsElsewhere : Cond.instanceMethod yX7_sitsElsewhere ∈ ALLW := wAll (wT2 115 rfl) rfl
set_option maxRecDepth 8000 in
theorem wSe_X7_X7_sitsElsewhere : Cond.selects "CavershamShift$Room" yX7_sitsElsewhere yX7_sitsElsewhere ∈ ALLW := wAll (wT2 116 rfl) rfl
set_option maxRecDepth 8000 in
theorem wY_X7_sitsElsewhere : Cond.code yX7_sitsElsewhere cX7_sitsElsewhere 5 (Option.some .boolean) ∈ ALLW := wAll (wT2 117 rfl) rfl
set_option maxRecDepth 8000 in
theorem wM_X10_387 : Cond.methodLink "CavershamShift" 387 yX4_isStateSound ∈ ALLW := wAll (wT2 118 rfl) rfl
set_option maxRecDepth 8000 in
theorem wIn_X4_isStateSound : Cond.instanceMethod yX4_isStateSound ∈ ALLW := wAll (wT2 119 rfl) rfl
set_option maxRecDepth 8000 in
theorem wSe_X4_X4_isStateSound : Cond.selects "CavershamShift$Newsroom" yX4_isStateSound yX4_isStateSound ∈ ALLW := wAll (wT2 120 rfl) rfl
set_option maxRecDepth 8000 in
theorem wY_X4_isStateSound : Cond.code yX4_isStateSound cX4_isStateSound 3 (Option.some .boolean) ∈ ALLW := wAll (wT2 121 rfl) rfl
set_option maxRecDepth 8000 in
theorem wM_X4_175 : Cond.methodLink "CavershamShift$Newsroom" 175 yX4_countThatStand ∈ ALLW := wAll (wT2 122 rfl) rfl
set_option maxRecDepth 8000 in
theorem wIn_X4_countThatStand : Cond.instanceMethod yX4_countThatStand ∈ ALLW := wAll (wT2 123 rfl) rfl
set_option maxRecDepth 8000 in
theorem wSe_X4_X4_countThatStand : Cond.selects "CavershamShift$Newsroom" yX4_countThatStand yX4_countThatStand ∈ ALLW := wAll (wT2 124 rfl) rfl
set_option maxRecDepth 8000 in
theorem wY_X4_countThatStand : Cond.code yX4_countThatStand cX4_countThatStand 4 (Option.some .int) ∈ ALLW := wAll (wT2 125 rfl) rfl
set_option maxRecDepth 8000 in
theorem wM_X4_179 : Cond.methodLink "CavershamShift$Newsroom" 179 yX4_countReports ∈ ALLW := wAll (wT2 126 rfl) rfl
set_option maxRecDepth 8000 in
theorem wIn_X4_countReports : Cond.instanceMethod yX4_countReports ∈ ALLW := wAll (wT2 127 rfl) rfl
set_option maxRecDepth 8000 in
theorem wSe_X4_X4_countReports : Cond.selects "CavershamShift$Newsroom" yX4_countReports yX4_countReports ∈ ALLW := wAll (wT2 128 rfl) rfl
set_option maxRecDepth 8000 in
theorem wY_X4_countReports : Cond.code yX4_countReports cX4_countReports 3 (Option.some .int) ∈ ALLW := wAll (wT2 129 rfl) rfl
set_option maxRecDepth 8000 in
theorem wM_X4_182 : Cond.methodLink "CavershamShift$Newsroom" 182 yX4_areReportsSound ∈ ALLW := wAll (wT2 130 rfl) rfl
set_option maxRecDepth 8000 in
theorem wIn_X4_areReportsSound : Cond.instanceMethod yX4_areReportsSound ∈ ALLW := wAll (wT2 132 rfl) rfl
set_option maxRecDepth 8000 in
theorem wY_X4_areReportsSound : Cond.code yX4_areReportsSound cX4_areReportsSound 6 (Option.some .boolean) ∈ ALLW := wAll (wT2 133 rfl) rfl
set_option maxRecDepth 8000 in
theorem wMN_X4_32 : Cond.methodLinkNest "CavershamShift$Newsroom" 32 yX10_isOutside "CavershamShift" ∈ NSTW := wNst (wT2 134 rfl) rfl
set_option maxRecDepth 8000 in
theorem wM_L_247 : Cond.methodLink "CavershamShiftLaw" 247 yX10_digest ∈ ALLW := wAll (wT2 135 rfl) rfl
set_option maxRecDepth 8000 in
theorem wIn_X10_digest : Cond.instanceMethod yX10_digest ∈ ALLW := wAll (wT2 136 rfl) rfl
set_option maxRecDepth 8000 in
theorem wSe_X10_X10_digest : Cond.selects "CavershamShift" yX10_digest yX10_digest ∈ ALLW := wAll (wT2 137 rfl) rfl
set_option maxRecDepth 8000 in
theorem wY_X10_digest : Cond.code yX10_digest cX10_digest 4 (Option.some .long) ∈ ALLW := wAll (wT2 138 rfl) rfl
set_option maxRecDepth 8000 in
theorem wK_X10_390 : Cond.constantLong "CavershamShift" 390 (58269 : Int64) ∈ ALLW := wAll (wT2 139 rfl) rfl
set_option maxRecDepth 8000 in
theorem wM_X10_308 : Cond.methodLink "CavershamShift" 308 yX10_deskFact ∈ ALLW := wAll (wT2 140 rfl) rfl
set_option maxRecDepth 8000 in
theorem wIn_X10_deskFact : Cond.instanceMethod yX10_deskFact ∈ ALLW := wAll (wT2 142 rfl) rfl
set_option maxRecDepth 8000 in
theorem wY_X10_deskFact : Cond.code yX10_deskFact cX10_deskFact 2 (Option.some .int) ∈ ALLW := wAll (wT2 143 rfl) rfl
set_option maxRecDepth 8000 in
theorem wM_X10_292 : Cond.methodLink "CavershamShift" 292 yX10_day ∈ ALLW := wAll (wT2 144 rfl) rfl
set_option maxRecDepth 8000 in
theorem wIn_X10_day : Cond.instanceMethod yX10_day ∈ ALLW := wAll (wT2 146 rfl) rfl
set_option maxRecDepth 8000 in
theorem wY_X10_day : Cond.code yX10_day cX10_day 1 (Option.some .int) ∈ ALLW := wAll (wT2 147 rfl) rfl
set_option maxRecDepth 8000 in
theorem wM_X10_411 : Cond.methodLink "CavershamShift" 411 yX10_hourOfDay ∈ ALLW := wAll (wT2 148 rfl) rfl
set_option maxRecDepth 8000 in
theorem wIn_X10_hourOfDay : Cond.instanceMethod yX10_hourOfDay ∈ ALLW := wAll (wT2 150 rfl) rfl
set_option maxRecDepth 8000 in
theorem wY_X10_hourOfDay : Cond.code yX10_hourOfDay cX10_hourOfDay 1 (Option.some .int) ∈ ALLW := wAll (wT2 151 rfl) rfl
set_option maxRecDepth 8000 in
theorem wM_X10_66 : Cond.methodLink "CavershamShift" 66 yJx4a65c_size_8abf5 ∈ ALLW := wAll (wT2 152 rfl) rfl
set_option maxRecDepth 8000 in
theorem wM_X10_521 : Cond.methodLink "CavershamShift" 521 yX4_countReports ∈ ALLW := wAll (wT2 153 rfl) rfl
set_option maxRecDepth 8000 in
theorem wM_X10_524 : Cond.methodLink "CavershamShift" 524 yX4_countThatStand ∈ ALLW := wAll (wT2 154 rfl) rfl
set_option maxRecDepth 8000 in
theorem wM_X10_392 : Cond.methodLink "CavershamShift" 392 yX10_mixed ∈ ALLW := wAll (wT2 155 rfl) rfl
set_option maxRecDepth 8000 in
theorem wSt_X10_mixed : Cond.static yX10_mixed ∈ ALLW := wAll (wT2 156 rfl) rfl
set_option maxRecDepth 8000 in
theorem wY_X10_mixed : Cond.code yX10_mixed cX10_mixed 4 (Option.some .long) ∈ ALLW := wAll (wT2 157 rfl) rfl
set_option maxRecDepth 8000 in
theorem wK_X10_549 : Cond.constantLong "CavershamShift" 549 (31 : Int64) ∈ ALLW := wAll (wT2 158 rfl) rfl
set_option maxRecDepth 8000 in
theorem wM_X10_396 : Cond.methodLink "CavershamShift" 396 yX10_withDial ∈ ALLW := wAll (wT2 159 rfl) rfl
set_option maxRecDepth 8000 in
theorem wIn_X10_withDial : Cond.instanceMethod yX10_withDial ∈ ALLW := wAll (wT2 161 rfl) rfl
set_option maxRecDepth 8000 in
theorem wY_X10_withDial : Cond.code yX10_withDial cX10_withDial 7 (Option.some .long) ∈ ALLW := wAll (wT2 162 rfl) rfl
set_option maxRecDepth 8000 in
theorem wM_X10_417 : Cond.methodLink "CavershamShift" 417 yJx4a65c_get_915e3 ∈ ALLW := wAll (wT2 163 rfl) rfl
set_option maxRecDepth 8000 in
theorem wC_X10_77 : Cond.classLink "CavershamShift" 77 "CavershamShift$Station" ∈ ALLW := wAll (wT2 164 rfl) rfl
set_option maxRecDepth 8000 in
theorem wM_X10_246 : Cond.methodLink "CavershamShift" 246 yX10_stationFact ∈ ALLW := wAll (wT2 165 rfl) rfl
set_option maxRecDepth 8000 in
theorem wIn_X10_stationFact : Cond.instanceMethod yX10_stationFact ∈ ALLW := wAll (wT2 167 rfl) rfl
set_option maxRecDepth 8000 in
theorem wY_X10_stationFact : Cond.code yX10_stationFact cX10_stationFact 3 (Option.some .int) ∈ ALLW := wAll (wT2 168 rfl) rfl
set_option maxRecDepth 8000 in
theorem wM_X10_167 : Cond.methodLink "CavershamShift" 167 yX8_isOnAir ∈ ALLW := wAll (wT2 169 rfl) rfl
set_option maxRecDepth 8000 in
theorem wIn_X8_isOnAir : Cond.instanceMethod yX8_isOnAir ∈ ALLW := wAll (wT2 170 rfl) rfl
set_option maxRecDepth 8000 in
theorem wSe_X8_X8_isOnAir : Cond.selects "CavershamShift$Station" yX8_isOnAir yX8_isOnAir ∈ ALLW := wAll (wT2 171 rfl) rfl
set_option maxRecDepth 8000 in
theorem wY_X8_isOnAir : Cond.code yX8_isOnAir cX8_isOnAir 2 (Option.some .boolean) ∈ ALLW := wAll (wT2 172 rfl) rfl
set_option maxRecDepth 8000 in
theorem wM_X10_252 : Cond.methodLink "CavershamShift" 252 yX0_strengthOf ∈ ALLW := wAll (wT2 173 rfl) rfl
set_option maxRecDepth 8000 in
theorem wIn_X0_strengthOf : Cond.instanceMethod yX0_strengthOf ∈ ALLW := wAll (wT2 174 rfl) rfl
set_option maxRecDepth 8000 in
theorem wSe_X0_X0_strengthOf : Cond.selects "CavershamShift$Dial" yX0_strengthOf yX0_strengthOf ∈ ALLW := wAll (wT2 175 rfl) rfl
set_option maxRecDepth 8000 in
theorem wY_X0_strengthOf : Cond.code yX0_strengthOf cX0_strengthOf 6 (Option.some .int) ∈ ALLW := wAll (wT2 176 rfl) rfl
set_option maxRecDepth 8000 in
theorem wM_X0_37 : Cond.methodLink "CavershamShift$Dial" 37 yX8_isOnAir ∈ ALLW := wAll (wT2 177 rfl) rfl
set_option maxRecDepth 8000 in
theorem wM_X0_48 : Cond.methodLink "CavershamShift$Dial" 48 yX0_isNight ∈ ALLW := wAll (wT2 178 rfl) rfl
set_option maxRecDepth 8000 in
theorem wSt_X0_isNight : Cond.static yX0_isNight ∈ ALLW := wAll (wT2 179 rfl) rfl
set_option maxRecDepth 8000 in
theorem wY_X0_isNight : Cond.code yX0_isNight cX0_isNight 1 (Option.some .boolean) ∈ ALLW := wAll (wT2 180 rfl) rfl
set_option maxRecDepth 8000 in
theorem wM_X0_19 : Cond.methodLink "CavershamShift$Dial" 19 yJx4a65c_size_8abf5 ∈ ALLW := wAll (wT2 181 rfl) rfl
set_option maxRecDepth 8000 in
theorem wM_X0_29 : Cond.methodLink "CavershamShift$Dial" 29 yJx4a65c_get_915e3 ∈ ALLW := wAll (wT2 182 rfl) rfl
set_option maxRecDepth 8000 in
theorem wC_X0_35 : Cond.classLink "CavershamShift$Dial" 35 "CavershamShift$Jammer" ∈ ALLW := wAll (wT2 183 rfl) rfl
set_option maxRecDepth 8000 in
theorem wM_X0_55 : Cond.methodLink "CavershamShift$Dial" 55 yX0_isNear ∈ ALLW := wAll (wT2 184 rfl) rfl
set_option maxRecDepth 8000 in
theorem wSt_X0_isNear : Cond.static yX0_isNear ∈ ALLW := wAll (wT2 185 rfl) rfl
set_option maxRecDepth 8000 in
theorem wY_X0_isNear : Cond.code yX0_isNear cX0_isNear 2 (Option.some .boolean) ∈ ALLW := wAll (wT2 186 rfl) rfl
set_option maxRecDepth 8000 in
theorem wM_X0_60 : Cond.methodLink "CavershamShift$Dial" 60 yJ9_abs_0f7a4 ∈ ALLW := wAll (wT2 187 rfl) rfl
set_option maxRecDepth 8000 in
theorem wSt_J9_abs_0f7a4 : Cond.static yJ9_abs_0f7a4 ∈ ALLW := wAll (wT2 188 rfl) rfl
set_option maxRecDepth 8000 in
theorem wY_J9_abs_0f7a4 : Cond.code yJ9_abs_0f7a4 cJ9_abs_0f7a4 1 (Option.some .int) ∈ ALLW := wAll (wT2 189 rfl) rfl
set_option maxRecDepth 8000 in
theorem wC_X0_33 : Cond.classLink "CavershamShift$Dial" 33 "CavershamShift$Station" ∈ ALLW := wAll (wT2 190 rfl) rfl
set_option maxRecDepth 8000 in
theorem wM_X10_450 : Cond.methodLink "CavershamShift" 450 yX4_countTalksOf ∈ ALLW := wAll (wT2 191 rfl) rfl
set_option maxRecDepth 8000 in
theorem wIn_X4_countTalksOf : Cond.instanceMethod yX4_countTalksOf ∈ ALLW := wAll (wT2 192 rfl) rfl
set_option maxRecDepth 8000 in
theorem wSe_X4_X4_countTalksOf : Cond.selects "CavershamShift$Newsroom" yX4_countTalksOf yX4_countTalksOf ∈ ALLW := wAll (wT2 193 rfl) rfl
set_option maxRecDepth 8000 in
theorem wY_X4_countTalksOf : Cond.code yX4_countTalksOf cX4_countTalksOf 4 (Option.some .int) ∈ ALLW := wAll (wT2 194 rfl) rfl
set_option maxRecDepth 8000 in
theorem wM_X10_454 : Cond.methodLink "CavershamShift" 454 yX4_countReportsOf ∈ ALLW := wAll (wT2 195 rfl) rfl
set_option maxRecDepth 8000 in
theorem wIn_X4_countReportsOf : Cond.instanceMethod yX4_countReportsOf ∈ ALLW := wAll (wT2 196 rfl) rfl
set_option maxRecDepth 8000 in
theorem wSe_X4_X4_countReportsOf : Cond.selects "CavershamShift$Newsroom" yX4_countReportsOf yX4_countReportsOf ∈ ALLW := wAll (wT2 197 rfl) rfl
set_option maxRecDepth 8000 in
theorem wY_X4_countReportsOf : Cond.code yX4_countReportsOf cX4_countReportsOf 5 (Option.some .int) ∈ ALLW := wAll (wT2 198 rfl) rfl
set_option maxRecDepth 8000 in
theorem wC_X10_129 : Cond.classLink "CavershamShift" 129 "CavershamShift$Monitor" ∈ ALLW := wAll (wT2 199 rfl) rfl
set_option maxRecDepth 8000 in
theorem wM_X10_255 : Cond.methodLink "CavershamShift" 255 yX10_monitorFact ∈ ALLW := wAll (wT2 200 rfl) rfl
set_option maxRecDepth 8000 in
theorem wIn_X10_monitorFact : Cond.instanceMethod yX10_monitorFact ∈ ALLW := wAll (wT2 202 rfl) rfl
set_option maxRecDepth 8000 in
theorem wY_X10_monitorFact : Cond.code yX10_monitorFact cX10_monitorFact 3 (Option.some .int) ∈ ALLW := wAll (wT2 203 rfl) rfl
set_option maxRecDepth 8000 in
theorem wM_X10_463 : Cond.methodLink "CavershamShift" 463 yX4_countReportsBy ∈ ALLW := wAll (wT2 204 rfl) rfl
set_option maxRecDepth 8000 in
theorem wIn_X4_countReportsBy : Cond.instanceMethod yX4_countReportsBy ∈ ALLW := wAll (wT2 205 rfl) rfl
set_option maxRecDepth 8000 in
theorem wSe_X4_X4_countReportsBy : Cond.selects "CavershamShift$Newsroom" yX4_countReportsBy yX4_countReportsBy ∈ ALLW := wAll (wT2 206 rfl) rfl
set_option maxRecDepth 8000 in
theorem wY_X4_countReportsBy : Cond.code yX4_countReportsBy cX4_countReportsBy 5 (Option.some .int) ∈ ALLW := wAll (wT2 207 rfl) rfl
set_option maxRecDepth 8000 in
theorem wM_X10_468 : Cond.methodLink "CavershamShift" 468 yX7_setOf ∈ ALLW := wAll (wT2 208 rfl) rfl
set_option maxRecDepth 8000 in
theorem wIn_X7_setOf : Cond.instanceMethod yX7_setOf ∈ ALLW := wAll (wT2 209 rfl) rfl
set_option maxRecDepth 8000 in
theorem wSe_X7_X7_setOf : Cond.selects "CavershamShift$Room" yX7_setOf yX7_setOf ∈ ALLW := wAll (wT2 210 rfl) rfl
set_option maxRecDepth 8000 in
theorem wY_X7_setOf : Cond.code yX7_setOf cX7_setOf 4 (Option.some .int) ∈ ALLW := wAll (wT2 211 rfl) rfl
set_option maxRecDepth 8000 in
theorem wM_X10_471 : Cond.methodLink "CavershamShift" 471 yX3_skillFor ∈ ALLW := wAll (wT2 212 rfl) rfl
set_option maxRecDepth 8000 in
theorem wIn_X3_skillFor : Cond.instanceMethod yX3_skillFor ∈ ALLW := wAll (wT2 213 rfl) rfl
set_option maxRecDepth 8000 in
theorem wSe_X3_X3_skillFor : Cond.selects "CavershamShift$Monitor" yX3_skillFor yX3_skillFor ∈ ALLW := wAll (wT2 214 rfl) rfl
set_option maxRecDepth 8000 in
theorem wY_X3_skillFor : Cond.code yX3_skillFor cX3_skillFor 4 (Option.some .int) ∈ ALLW := wAll (wT2 215 rfl) rfl
set_option maxRecDepth 8000 in
theorem wM_X10_400 : Cond.methodLink "CavershamShift" 400 yX10_withBestShift ∈ ALLW := wAll (wT2 216 rfl) rfl
set_option maxRecDepth 8000 in
theorem wIn_X10_withBestShift : Cond.instanceMethod yX10_withBestShift ∈ ALLW := wAll (wT2 218 rfl) rfl
set_option maxRecDepth 8000 in
theorem wY_X10_withBestShift : Cond.code yX10_withBestShift cX10_withBestShift 6 (Option.some .long) ∈ ALLW := wAll (wT2 219 rfl) rfl
set_option maxRecDepth 8000 in
theorem wM_X10_362 : Cond.methodLink "CavershamShift" 362 yX2_choose ∈ ALLW := wAll (wT2 220 rfl) rfl
set_option maxRecDepth 8000 in
theorem wIn_X2_choose : Cond.instanceMethod yX2_choose ∈ ALLW := wAll (wT2 221 rfl) rfl
set_option maxRecDepth 8000 in
theorem wSe_X2_X2_choose : Cond.selects "CavershamShift$Matching" yX2_choose yX2_choose ∈ ALLW := wAll (wT2 222 rfl) rfl
set_option maxRecDepth 8000 in
theorem wY_X2_choose : Cond.code yX2_choose cX2_choose 7 (none) ∈ ALLW := wAll (wT2 223 rfl) rfl
set_option maxRecDepth 8000 in
theorem wM_X2_29 : Cond.methodLink "CavershamShift$Matching" 29 yX2_readQualities ∈ ALLW := wAll (wT2 224 rfl) rfl
set_option maxRecDepth 8000 in
theorem wIn_X2_readQualities : Cond.instanceMethod yX2_readQualities ∈ ALLW := wAll (wT2 226 rfl) rfl
set_option maxRecDepth 8000 in
theorem wY_X2_readQualities : Cond.code yX2_readQualities cX2_readQualities 5 (none) ∈ ALLW := wAll (wT2 227 rfl) rfl
set_option maxRecDepth 8000 in
theorem wM_X2_49 : Cond.methodLink "CavershamShift$Matching" 49 yX0_stationAt ∈ ALLW := wAll (wT2 228 rfl) rfl
set_option maxRecDepth 8000 in
theorem wIn_X0_stationAt : Cond.instanceMethod yX0_stationAt ∈ ALLW := wAll (wT2 229 rfl) rfl
set_option maxRecDepth 8000 in
theorem wSe_X0_X0_stationAt : Cond.selects "CavershamShift$Dial" yX0_stationAt yX0_stationAt ∈ ALLW := wAll (wT2 230 rfl) rfl
set_option maxRecDepth 8000 in
theorem wY_X0_stationAt : Cond.code yX0_stationAt cX0_stationAt 2 (Option.some (.object "CavershamShift$Station")) ∈ ALLW := wAll (wT2 231 rfl) rfl
set_option maxRecDepth 8000 in
theorem wMN_X0_23 : Cond.methodLinkNest "CavershamShift$Dial" 23 yX10_isOutside "CavershamShift" ∈ NSTW := wNst (wT2 232 rfl) rfl
set_option maxRecDepth 8000 in
theorem wM_X2_55 : Cond.methodLink "CavershamShift$Matching" 55 yX7_monitorAt ∈ ALLW := wAll (wT2 233 rfl) rfl
set_option maxRecDepth 8000 in
theorem wIn_X7_monitorAt : Cond.instanceMethod yX7_monitorAt ∈ ALLW := wAll (wT2 234 rfl) rfl
set_option maxRecDepth 8000 in
theorem wSe_X7_X7_monitorAt : Cond.selects "CavershamShift$Room" yX7_monitorAt yX7_monitorAt ∈ ALLW := wAll (wT2 235 rfl) rfl
set_option maxRecDepth 8000 in
theorem wY_X7_monitorAt : Cond.code yX7_monitorAt cX7_monitorAt 2 (Option.some (.object "CavershamShift$Monitor")) ∈ ALLW := wAll (wT2 236 rfl) rfl
set_option maxRecDepth 8000 in
theorem wM_X7_35 : Cond.methodLink "CavershamShift$Room" 35 yJx4a65c_size_8abf5 ∈ ALLW := wAll (wT2 237 rfl) rfl
set_option maxRecDepth 8000 in
theorem wM_X7_43 : Cond.methodLink "CavershamShift$Room" 43 yJx4a65c_get_915e3 ∈ ALLW := wAll (wT2 238 rfl) rfl
set_option maxRecDepth 8000 in
theorem wC_X7_47 : Cond.classLink "CavershamShift$Room" 47 "CavershamShift$Monitor" ∈ ALLW := wAll (wT2 239 rfl) rfl
set_option maxRecDepth 8000 in
theorem wM_X2_61 : Cond.methodLink "CavershamShift$Matching" 61 yX7_qualityOf ∈ ALLW := wAll (wT3 0 rfl) rfl
set_option maxRecDepth 8000 in
theorem wIn_X7_qualityOf : Cond.instanceMethod yX7_qualityOf ∈ ALLW := wAll (wT3 1 rfl) rfl
set_option maxRecDepth 8000 in
theorem wSe_X7_X7_qualityOf : Cond.selects "CavershamShift$Room" yX7_qualityOf yX7_qualityOf ∈ ALLW := wAll (wT3 2 rfl) rfl
set_option maxRecDepth 8000 in
theorem wY_X7_qualityOf : Cond.code yX7_qualityOf cX7_qualityOf 6 (Option.some .int) ∈ ALLW := wAll (wT3 3 rfl) rfl
set_option maxRecDepth 8000 in
theorem wM_X7_57 : Cond.methodLink "CavershamShift$Room" 57 yX0_strengthOf ∈ ALLW := wAll (wT3 4 rfl) rfl
set_option maxRecDepth 8000 in
theorem wMN_X7_63 : Cond.methodLinkNest "CavershamShift$Room" 63 yX10_hold "CavershamShift" ∈ NSTW := wNst (wT3 5 rfl) rfl
set_option maxRecDepth 8000 in
theorem wSt_X10_hold : Cond.static yX10_hold ∈ ALLW := wAll (wT3 6 rfl) rfl
set_option maxRecDepth 8000 in
theorem wY_X10_hold : Cond.code yX10_hold cX10_hold 3 (Option.some .int) ∈ ALLW := wAll (wT3 7 rfl) rfl
set_option maxRecDepth 8000 in
theorem wM_X10_551 : Cond.methodLink "CavershamShift" 551 yJ9_min_7cf53 ∈ ALLW := wAll (wT3 8 rfl) rfl
set_option maxRecDepth 8000 in
theorem wM_X10_556 : Cond.methodLink "CavershamShift" 556 yJ9_max_7cf53 ∈ ALLW := wAll (wT3 9 rfl) rfl
set_option maxRecDepth 8000 in
theorem wM_X7_73 : Cond.methodLink "CavershamShift$Room" 73 yX3_skillFor ∈ ALLW := wAll (wT3 10 rfl) rfl
set_option maxRecDepth 8000 in
theorem wM_X2_33 : Cond.methodLink "CavershamShift$Matching" 33 yX2_greatestOf ∈ ALLW := wAll (wT3 11 rfl) rfl
set_option maxRecDepth 8000 in
theorem wIn_X2_greatestOf : Cond.instanceMethod yX2_greatestOf ∈ ALLW := wAll (wT3 13 rfl) rfl
set_option maxRecDepth 8000 in
theorem wY_X2_greatestOf : Cond.code yX2_greatestOf cX2_greatestOf 6 (Option.some .int) ∈ ALLW := wAll (wT3 14 rfl) rfl
set_option maxRecDepth 8000 in
theorem wM_X2_69 : Cond.methodLink "CavershamShift$Matching" 69 yJ7_fill_53178 ∈ ALLW := wAll (wT3 15 rfl) rfl
set_option maxRecDepth 8000 in
theorem wM_X2_79 : Cond.methodLink "CavershamShift$Matching" 79 yJx4a65c_size_8abf5 ∈ ALLW := wAll (wT3 16 rfl) rfl
set_option maxRecDepth 8000 in
theorem wMN_X2_65 : Cond.methodLinkNest "CavershamShift$Matching" 65 yX10_isIn "CavershamShift" ∈ NSTW := wNst (wT3 17 rfl) rfl
set_option maxRecDepth 8000 in
theorem wM_X2_85 : Cond.methodLink "CavershamShift$Matching" 85 yX2_addStation ∈ ALLW := wAll (wT3 18 rfl) rfl
set_option maxRecDepth 8000 in
theorem wIn_X2_addStation : Cond.instanceMethod yX2_addStation ∈ ALLW := wAll (wT3 20 rfl) rfl
set_option maxRecDepth 8000 in
theorem wY_X2_addStation : Cond.code yX2_addStation cX2_addStation 10 (none) ∈ ALLW := wAll (wT3 21 rfl) rfl
set_option maxRecDepth 8000 in
theorem wM_X2_95 : Cond.methodLink "CavershamShift$Matching" 95 yJ6_bitCount_0f7a4 ∈ ALLW := wAll (wT3 22 rfl) rfl
set_option maxRecDepth 8000 in
theorem wSt_J6_bitCount_0f7a4 : Cond.static yJ6_bitCount_0f7a4 ∈ ALLW := wAll (wT3 23 rfl) rfl
set_option maxRecDepth 8000 in
theorem wY_J6_bitCount_0f7a4 : Cond.code yJ6_bitCount_0f7a4 cJ6_bitCount_0f7a4 1 (Option.some .int) ∈ ALLW := wAll (wT3 24 rfl) rfl
set_option maxRecDepth 8000 in
theorem wK_J6_265 : Cond.constant "java/lang/Integer" 265 (1431655765) ∈ ALLW := wAll (wT3 25 rfl) rfl
set_option maxRecDepth 8000 in
theorem wK_J6_266 : Cond.constant "java/lang/Integer" 266 (858993459) ∈ ALLW := wAll (wT3 26 rfl) rfl
set_option maxRecDepth 8000 in
theorem wK_J6_267 : Cond.constant "java/lang/Integer" 267 (252645135) ∈ ALLW := wAll (wT3 27 rfl) rfl
set_option maxRecDepth 8000 in
theorem wM_X2_100 : Cond.methodLink "CavershamShift$Matching" 100 yX2_qualityOfPair ∈ ALLW := wAll (wT3 28 rfl) rfl
set_option maxRecDepth 8000 in
theorem wIn_X2_qualityOfPair : Cond.instanceMethod yX2_qualityOfPair ∈ ALLW := wAll (wT3 30 rfl) rfl
set_option maxRecDepth 8000 in
theorem wY_X2_qualityOfPair : Cond.code yX2_qualityOfPair cX2_qualityOfPair 2 (Option.some .int) ∈ ALLW := wAll (wT3 31 rfl) rfl
set_option maxRecDepth 8000 in
theorem wMN_X2_41 : Cond.methodLinkNest "CavershamShift$Matching" 41 yX10_isOutside "CavershamShift" ∈ NSTW := wNst (wT3 32 rfl) rfl
set_option maxRecDepth 8000 in
theorem wM_X2_89 : Cond.methodLink "CavershamShift$Matching" 89 yJ9_max_7cf53 ∈ ALLW := wAll (wT3 33 rfl) rfl
set_option maxRecDepth 8000 in
theorem wM_X2_37 : Cond.methodLink "CavershamShift$Matching" 37 yX2_smallestPair ∈ ALLW := wAll (wT3 34 rfl) rfl
set_option maxRecDepth 8000 in
theorem wIn_X2_smallestPair : Cond.instanceMethod yX2_smallestPair ∈ ALLW := wAll (wT3 36 rfl) rfl
set_option maxRecDepth 8000 in
theorem wY_X2_smallestPair : Cond.code yX2_smallestPair cX2_smallestPair 10 (Option.some .int) ∈ ALLW := wAll (wT3 37 rfl) rfl
set_option maxRecDepth 8000 in
theorem wM_X10_369 : Cond.methodLink "CavershamShift" 369 yX2_stationAtSet ∈ ALLW := wAll (wT3 38 rfl) rfl
set_option maxRecDepth 8000 in
theorem wIn_X2_stationAtSet : Cond.instanceMethod yX2_stationAtSet ∈ ALLW := wAll (wT3 39 rfl) rfl
set_option maxRecDepth 8000 in
theorem wSe_X2_X2_stationAtSet : Cond.selects "CavershamShift$Matching" yX2_stationAtSet yX2_stationAtSet ∈ ALLW := wAll (wT3 40 rfl) rfl
set_option maxRecDepth 8000 in
theorem wY_X2_stationAtSet : Cond.code yX2_stationAtSet cX2_stationAtSet 3 (Option.some .int) ∈ ALLW := wAll (wT3 41 rfl) rfl
set_option maxRecDepth 8000 in
theorem wM_X2_45 : Cond.methodLink "CavershamShift$Matching" 45 yX2_pairAtSet ∈ ALLW := wAll (wT3 42 rfl) rfl
set_option maxRecDepth 8000 in
theorem wIn_X2_pairAtSet : Cond.instanceMethod yX2_pairAtSet ∈ ALLW := wAll (wT3 44 rfl) rfl
set_option maxRecDepth 8000 in
theorem wY_X2_pairAtSet : Cond.code yX2_pairAtSet cX2_pairAtSet 2 (Option.some .int) ∈ ALLW := wAll (wT3 45 rfl) rfl
set_option maxRecDepth 8000 in
theorem wM_X10_366 : Cond.methodLink "CavershamShift" 366 yX2_monitorAtSet ∈ ALLW := wAll (wT3 46 rfl) rfl
set_option maxRecDepth 8000 in
theorem wIn_X2_monitorAtSet : Cond.instanceMethod yX2_monitorAtSet ∈ ALLW := wAll (wT3 47 rfl) rfl
set_option maxRecDepth 8000 in
theorem wSe_X2_X2_monitorAtSet : Cond.selects "CavershamShift$Matching" yX2_monitorAtSet yX2_monitorAtSet ∈ ALLW := wAll (wT3 48 rfl) rfl
set_option maxRecDepth 8000 in
theorem wY_X2_monitorAtSet : Cond.code yX2_monitorAtSet cX2_monitorAtSet 3 (Option.some .int) ∈ ALLW := wAll (wT3 49 rfl) rfl
set_option maxRecDepth 8000 in
theorem wM_X10_403 : Cond.methodLink "CavershamShift" 403 yX10_withTalks ∈ ALLW := wAll (wT3 50 rfl) rfl
set_option maxRecDepth 8000 in
theorem wIn_X10_withTalks : Cond.instanceMethod yX10_withTalks ∈ ALLW := wAll (wT3 52 rfl) rfl
set_option maxRecDepth 8000 in
theorem wY_X10_withTalks : Cond.code yX10_withTalks cX10_withTalks 8 (Option.some .long) ∈ ALLW := wAll (wT3 53 rfl) rfl
set_option maxRecDepth 8000 in
theorem wC_X10_177 : Cond.classLink "CavershamShift" 177 "CavershamShift$Talk" ∈ ALLW := wAll (wT3 54 rfl) rfl
set_option maxRecDepth 8000 in
theorem wM_X10_268 : Cond.methodLink "CavershamShift" 268 yX10_talkFact ∈ ALLW := wAll (wT3 55 rfl) rfl
set_option maxRecDepth 8000 in
theorem wIn_X10_talkFact : Cond.instanceMethod yX10_talkFact ∈ ALLW := wAll (wT3 57 rfl) rfl
set_option maxRecDepth 8000 in
theorem wY_X10_talkFact : Cond.code yX10_talkFact cX10_talkFact 3 (Option.some .int) ∈ ALLW := wAll (wT3 58 rfl) rfl
set_option maxRecDepth 8000 in
theorem wM_X10_272 : Cond.methodLink "CavershamShift" 272 yX10_reportFact ∈ ALLW := wAll (wT3 59 rfl) rfl
set_option maxRecDepth 8000 in
theorem wIn_X10_reportFact : Cond.instanceMethod yX10_reportFact ∈ ALLW := wAll (wT3 61 rfl) rfl
set_option maxRecDepth 8000 in
theorem wY_X10_reportFact : Cond.code yX10_reportFact cX10_reportFact 4 (Option.some .int) ∈ ALLW := wAll (wT3 62 rfl) rfl
set_option maxRecDepth 8000 in
theorem wM_X10_509 : Cond.methodLink "CavershamShift" 509 yX9_isInError ∈ ALLW := wAll (wT3 63 rfl) rfl
set_option maxRecDepth 8000 in
theorem wC_X10_212 : Cond.classLink "CavershamShift" 212 "CavershamShift$Reader" ∈ ALLW := wAll (wT3 64 rfl) rfl
set_option maxRecDepth 8000 in
theorem wM_X10_277 : Cond.methodLink "CavershamShift" 277 yX9_reached ∈ ALLW := wAll (wT3 65 rfl) rfl
set_option maxRecDepth 8000 in
theorem wIn_X9_reached : Cond.instanceMethod yX9_reached ∈ ALLW := wAll (wT3 66 rfl) rfl
set_option maxRecDepth 8000 in
theorem wSe_X9_X9_reached : Cond.selects "CavershamShift$Talk" yX9_reached yX9_reached ∈ ALLW := wAll (wT3 67 rfl) rfl
set_option maxRecDepth 8000 in
theorem wY_X9_reached : Cond.code yX9_reached cX9_reached 2 (Option.some .int) ∈ ALLW := wAll (wT3 68 rfl) rfl
set_option maxRecDepth 8000 in
theorem wM_X10_406 : Cond.methodLink "CavershamShift" 406 yX10_withReaders ∈ ALLW := wAll (wT3 69 rfl) rfl
set_option maxRecDepth 8000 in
theorem wIn_X10_withReaders : Cond.instanceMethod yX10_withReaders ∈ ALLW := wAll (wT3 71 rfl) rfl
set_option maxRecDepth 8000 in
theorem wY_X10_withReaders : Cond.code yX10_withReaders cX10_withReaders 7 (Option.some .long) ∈ ALLW := wAll (wT3 72 rfl) rfl
set_option maxRecDepth 8000 in
theorem wM_X10_280 : Cond.methodLink "CavershamShift" 280 yX10_readerFact ∈ ALLW := wAll (wT3 73 rfl) rfl
set_option maxRecDepth 8000 in
theorem wIn_X10_readerFact : Cond.instanceMethod yX10_readerFact ∈ ALLW := wAll (wT3 75 rfl) rfl
set_option maxRecDepth 8000 in
theorem wY_X10_readerFact : Cond.code yX10_readerFact cX10_readerFact 3 (Option.some .int) ∈ ALLW := wAll (wT3 76 rfl) rfl
set_option maxRecDepth 8000 in
theorem wM_X10_515 : Cond.methodLink "CavershamShift" 515 yX4_countReached ∈ ALLW := wAll (wT3 77 rfl) rfl
set_option maxRecDepth 8000 in
theorem wIn_X4_countReached : Cond.instanceMethod yX4_countReached ∈ ALLW := wAll (wT3 78 rfl) rfl
set_option maxRecDepth 8000 in
theorem wSe_X4_X4_countReached : Cond.selects "CavershamShift$Newsroom" yX4_countReached yX4_countReached ∈ ALLW := wAll (wT3 79 rfl) rfl
set_option maxRecDepth 8000 in
theorem wY_X4_countReached : Cond.code yX4_countReached cX4_countReached 5 (Option.some .int) ∈ ALLW := wAll (wT3 80 rfl) rfl
set_option maxRecDepth 8000 in
theorem wM_X4_150 : Cond.methodLink "CavershamShift$Newsroom" 150 yX9_reached ∈ ALLW := wAll (wT3 81 rfl) rfl
set_option maxRecDepth 8000 in
theorem wM_X10_518 : Cond.methodLink "CavershamShift" 518 yX4_countMisled ∈ ALLW := wAll (wT3 82 rfl) rfl
set_option maxRecDepth 8000 in
theorem wIn_X4_countMisled : Cond.instanceMethod yX4_countMisled ∈ ALLW := wAll (wT3 83 rfl) rfl
set_option maxRecDepth 8000 in
theorem wSe_X4_X4_countMisled : Cond.selects "CavershamShift$Newsroom" yX4_countMisled yX4_countMisled ∈ ALLW := wAll (wT3 84 rfl) rfl
set_option maxRecDepth 8000 in
theorem wY_X4_countMisled : Cond.code yX4_countMisled cX4_countMisled 5 (Option.some .int) ∈ ALLW := wAll (wT3 85 rfl) rfl
set_option maxRecDepth 8000 in
theorem wM_X10_295 : Cond.methodLink "CavershamShift" 295 yX4_goneFrom ∈ ALLW := wAll (wT3 86 rfl) rfl
set_option maxRecDepth 8000 in
theorem wIn_X4_goneFrom : Cond.instanceMethod yX4_goneFrom ∈ ALLW := wAll (wT3 87 rfl) rfl
set_option maxRecDepth 8000 in
theorem wSe_X4_X4_goneFrom : Cond.selects "CavershamShift$Newsroom" yX4_goneFrom yX4_goneFrom ∈ ALLW := wAll (wT3 88 rfl) rfl
set_option maxRecDepth 8000 in
theorem wY_X4_goneFrom : Cond.code yX4_goneFrom cX4_goneFrom 6 (Option.some .int) ∈ ALLW := wAll (wT3 89 rfl) rfl
set_option maxRecDepth 8000 in
theorem wM_X4_160 : Cond.methodLink "CavershamShift$Newsroom" 160 yX4_countReportsOn ∈ ALLW := wAll (wT3 90 rfl) rfl
set_option maxRecDepth 8000 in
theorem wIn_X4_countReportsOn : Cond.instanceMethod yX4_countReportsOn ∈ ALLW := wAll (wT3 92 rfl) rfl
set_option maxRecDepth 8000 in
theorem wY_X4_countReportsOn : Cond.code yX4_countReportsOn cX4_countReportsOn 7 (Option.some .int) ∈ ALLW := wAll (wT3 93 rfl) rfl
set_option maxRecDepth 8000 in
theorem wM_X4_154 : Cond.methodLink "CavershamShift$Newsroom" 154 yX9_isOnDays ∈ ALLW := wAll (wT3 94 rfl) rfl
set_option maxRecDepth 8000 in
theorem wIn_X9_isOnDays : Cond.instanceMethod yX9_isOnDays ∈ ALLW := wAll (wT3 95 rfl) rfl
set_option maxRecDepth 8000 in
theorem wSe_X9_X9_isOnDays : Cond.selects "CavershamShift$Talk" yX9_isOnDays yX9_isOnDays ∈ ALLW := wAll (wT3 96 rfl) rfl
set_option maxRecDepth 8000 in
theorem wY_X9_isOnDays : Cond.code yX9_isOnDays cX9_isOnDays 3 (Option.some .boolean) ∈ ALLW := wAll (wT3 97 rfl) rfl
set_option maxRecDepth 8000 in
theorem wMN_X9_37 : Cond.methodLinkNest "CavershamShift$Talk" 37 yX10_isOutside "CavershamShift" ∈ NSTW := wNst (wT3 98 rfl) rfl
set_option maxRecDepth 8000 in
theorem wM_X4_164 : Cond.methodLink "CavershamShift$Newsroom" 164 yX4_countUsed ∈ ALLW := wAll (wT3 99 rfl) rfl
set_option maxRecDepth 8000 in
theorem wIn_X4_countUsed : Cond.instanceMethod yX4_countUsed ∈ ALLW := wAll (wT3 100 rfl) rfl
set_option maxRecDepth 8000 in
theorem wSe_X4_X4_countUsed : Cond.selects "CavershamShift$Newsroom" yX4_countUsed yX4_countUsed ∈ ALLW := wAll (wT3 101 rfl) rfl
set_option maxRecDepth 8000 in
theorem wY_X4_countUsed : Cond.code yX4_countUsed cX4_countUsed 9 (Option.some .int) ∈ ALLW := wAll (wT3 102 rfl) rfl
set_option maxRecDepth 8000 in
theorem wMN_X4_67 : Cond.methodLinkNest "CavershamShift$Newsroom" 67 yX10_isIn "CavershamShift" ∈ NSTW := wNst (wT3 103 rfl) rfl
set_option maxRecDepth 8000 in
theorem wK_X10_409 : Cond.constantDouble "CavershamShift" 409 (4634204016564240384 : UInt64) ∈ ALLW := wAll (wT3 104 rfl) rfl
set_option maxRecDepth 8000 in
theorem wM_X10_304 : Cond.methodLink "CavershamShift" 304 yX4_meanQuality ∈ ALLW := wAll (wT3 105 rfl) rfl
set_option maxRecDepth 8000 in
theorem wIn_X4_meanQuality : Cond.instanceMethod yX4_meanQuality ∈ ALLW := wAll (wT3 106 rfl) rfl
set_option maxRecDepth 8000 in
theorem wSe_X4_X4_meanQuality : Cond.selects "CavershamShift$Newsroom" yX4_meanQuality yX4_meanQuality ∈ ALLW := wAll (wT3 107 rfl) rfl
set_option maxRecDepth 8000 in
theorem wY_X4_meanQuality : Cond.code yX4_meanQuality cX4_meanQuality 7 (Option.some .double) ∈ ALLW := wAll (wT3 108 rfl) rfl
set_option maxRecDepth 8000 in
theorem wM_X10_300 : Cond.methodLink "CavershamShift" 300 yX4_firstSentOn ∈ ALLW := wAll (wT3 109 rfl) rfl
set_option maxRecDepth 8000 in
theorem wIn_X4_firstSentOn : Cond.instanceMethod yX4_firstSentOn ∈ ALLW := wAll (wT3 110 rfl) rfl
set_option maxRecDepth 8000 in
theorem wSe_X4_X4_firstSentOn : Cond.selects "CavershamShift$Newsroom" yX4_firstSentOn yX4_firstSentOn ∈ ALLW := wAll (wT3 111 rfl) rfl
set_option maxRecDepth 8000 in
theorem wY_X4_firstSentOn : Cond.code yX4_firstSentOn cX4_firstSentOn 7 (Option.some .int) ∈ ALLW := wAll (wT3 112 rfl) rfl
set_option maxRecDepth 8000 in
theorem wM_X10_359 : Cond.methodLink "CavershamShift" 359 yX2_greatestSum ∈ ALLW := wAll (wT3 113 rfl) rfl
set_option maxRecDepth 8000 in
theorem wIn_X2_greatestSum : Cond.instanceMethod yX2_greatestSum ∈ ALLW := wAll (wT3 114 rfl) rfl
set_option maxRecDepth 8000 in
theorem wSe_X2_X2_greatestSum : Cond.selects "CavershamShift$Matching" yX2_greatestSum yX2_greatestSum ∈ ALLW := wAll (wT3 115 rfl) rfl
set_option maxRecDepth 8000 in
theorem wY_X2_greatestSum : Cond.code yX2_greatestSum cX2_greatestSum 2 (Option.some .int) ∈ ALLW := wAll (wT3 116 rfl) rfl
set_option maxRecDepth 8000 in
theorem wM_X10_414 : Cond.methodLink "CavershamShift" 414 yX10_isSound ∈ ALLW := wAll (wT3 117 rfl) rfl
set_option maxRecDepth 8000 in
theorem wC_L_14 : Cond.classLink "CavershamShiftLaw" 14 "CavershamShiftLaw$Out" ∈ ALLW := wAll (wT3 118 rfl) rfl
set_option maxRecDepth 8000 in
theorem wNew_X11 : Cond.instantiable "CavershamShiftLaw$Out" 3 ∈ ALLW := wAll (wT3 119 rfl) rfl
set_option maxRecDepth 8000 in
theorem wMN_L_131 : Cond.methodLinkNest "CavershamShiftLaw" 131 yX11_init "CavershamShiftLaw" ∈ NSTW := wNst (wT3 120 rfl) rfl
set_option maxRecDepth 8000 in
theorem wIn_X11_init : Cond.instanceMethod yX11_init ∈ ALLW := wAll (wT3 121 rfl) rfl
set_option maxRecDepth 8000 in
theorem wY_X11_init : Cond.code yX11_init cX11_init 1 (none) ∈ ALLW := wAll (wT3 122 rfl) rfl
set_option maxRecDepth 8000 in
theorem wM_X11_1 : Cond.methodLink "CavershamShiftLaw$Out" 1 objectInit ∈ ALLW := wAll (wT3 123 rfl) rfl
set_option maxRecDepth 8000 in
theorem wFN_L_13 : Cond.fieldLinkNest "CavershamShiftLaw" 13 "CavershamShiftLaw$Out" "n" "J" "CavershamShiftLaw" ∈ NSTW := wNst (wT3 124 rfl) rfl
set_option maxRecDepth 8000 in
theorem wFN_L_103 : Cond.fieldLinkNest "CavershamShiftLaw" 103 "CavershamShiftLaw$Out" "d" "D" "CavershamShiftLaw" ∈ NSTW := wNst (wT3 125 rfl) rfl
set_option maxRecDepth 8000 in
theorem wFN_L_114 : Cond.fieldLinkNest "CavershamShiftLaw" 114 "CavershamShiftLaw$Out" "s" "Ljava/lang/String;" "CavershamShiftLaw" ∈ NSTW := wNst (wT3 126 rfl) rfl
set_option maxRecDepth 8000 in
theorem wM_L_132 : Cond.methodLink "CavershamShiftLaw" 132 yL_station ∈ ALLW := wAll (wT3 134 rfl) rfl
set_option maxRecDepth 8000 in
theorem wSt_L_station : Cond.static yL_station ∈ ALLW := wAll (wT3 135 rfl) rfl
set_option maxRecDepth 8000 in
theorem wYW_L_station : Cond.codeWith yL_station cL_station 9 (Option.some .int) [(0, 19, 22, 19), (0, 19, 26, 21)] ∈ ALLW := wAll (wT3 136 rfl) rfl
set_option maxRecDepth 8000 in
theorem wC_L_19 : Cond.classLink "CavershamShiftLaw" 19 "java/lang/IllegalArgumentException" ∈ ALLW := wAll (wT3 137 rfl) rfl
set_option maxRecDepth 8000 in
theorem wC_L_21 : Cond.classLink "CavershamShiftLaw" 21 "java/lang/IllegalStateException" ∈ ALLW := wAll (wT3 138 rfl) rfl
set_option maxRecDepth 8000 in
theorem wM_L_7 : Cond.methodLink "CavershamShiftLaw" 7 yX10_station ∈ ALLW := wAll (wT3 139 rfl) rfl
set_option maxRecDepth 8000 in
theorem wIn_X10_station : Cond.instanceMethod yX10_station ∈ ALLW := wAll (wT3 140 rfl) rfl
set_option maxRecDepth 8000 in
theorem wSe_X10_X10_station : Cond.selects "CavershamShift" yX10_station yX10_station ∈ ALLW := wAll (wT3 141 rfl) rfl
set_option maxRecDepth 8000 in
theorem wY_X10_station : Cond.code yX10_station cX10_station 8 (Option.some .int) ∈ ALLW := wAll (wT3 142 rfl) rfl
set_option maxRecDepth 8000 in
theorem wM_X10_48 : Cond.methodLink "CavershamShift" 48 yX10_isOutside ∈ ALLW := wAll (wT3 143 rfl) rfl
set_option maxRecDepth 8000 in
theorem wC_X10_52 : Cond.classLink "CavershamShift" 52 "java/lang/IllegalArgumentException" ∈ ALLW := wAll (wT3 144 rfl) rfl
set_option maxRecDepth 8000 in
theorem wCa_java_lang_IllegalArgumentException_java_lang_IllegalArgumentException : Cond.castable "java/lang/IllegalArgumentException" "java/lang/IllegalArgumentException" ∈ NSTW := wNst (wT3 146 rfl) rfl
set_option maxRecDepth 8000 in
theorem wA_byte : Cond.arrayClass .byte ∈ ALLW := wAll (wT3 211 rfl) rfl
set_option maxRecDepth 8000 in
theorem wK_X10_59 : Cond.constant "CavershamShift" 59 (16777215) ∈ ALLW := wAll (wT3 212 rfl) rfl
set_option maxRecDepth 8000 in
theorem wC_X10_72 : Cond.classLink "CavershamShift" 72 "java/lang/IllegalStateException" ∈ ALLW := wAll (wT3 214 rfl) rfl
set_option maxRecDepth 8000 in
theorem wCa_java_lang_IllegalStateException_java_lang_IllegalStateException : Cond.castable "java/lang/IllegalStateException" "java/lang/IllegalStateException" ∈ NSTW := wNst (wT3 216 rfl) rfl
set_option maxRecDepth 8000 in
theorem wNew_X8 : Cond.instantiable "CavershamShift$Station" 7 ∈ ALLW := wAll (wT3 230 rfl) rfl
set_option maxRecDepth 8000 in
theorem wM_X10_79 : Cond.methodLink "CavershamShift" 79 yX8_init ∈ ALLW := wAll (wT3 231 rfl) rfl
set_option maxRecDepth 8000 in
theorem wIn_X8_init : Cond.instanceMethod yX8_init ∈ ALLW := wAll (wT3 232 rfl) rfl
set_option maxRecDepth 8000 in
theorem wY_X8_init : Cond.code yX8_init cX8_init 8 (none) ∈ ALLW := wAll (wT3 233 rfl) rfl
set_option maxRecDepth 8000 in
theorem wM_X8_1 : Cond.methodLink "CavershamShift$Station" 1 objectInit ∈ ALLW := wAll (wT3 234 rfl) rfl
set_option maxRecDepth 8000 in
theorem wF_X8_7 : Cond.fieldLink "CavershamShift$Station" 7 "CavershamShift$Station" "number" "I" ∈ ALLW := wAll (wT3 235 rfl) rfl
set_option maxRecDepth 8000 in
theorem wF_X7_95 : Cond.fieldLink "CavershamShift$Room" 95 "CavershamShift$Station" "number" "I" ∈ ALLW := wAll (wT3 236 rfl) rfl
set_option maxRecDepth 8000 in
theorem wF_X10_330 : Cond.fieldLink "CavershamShift" 330 "CavershamShift$Station" "number" "I" ∈ ALLW := wAll (wT3 237 rfl) rfl
set_option maxRecDepth 8000 in
theorem wF_X8_13 : Cond.fieldLink "CavershamShift$Station" 13 "CavershamShift$Station" "band" "I" ∈ ALLW := wAll (wT3 238 rfl) rfl
set_option maxRecDepth 8000 in
theorem wF_X10_97 : Cond.fieldLink "CavershamShift" 97 "CavershamShift$Station" "band" "I" ∈ ALLW := wAll (wT3 239 rfl) rfl
set_option maxRecDepth 8000 in
theorem wF_X0_51 : Cond.fieldLink "CavershamShift$Dial" 51 "CavershamShift$Station" "band" "I" ∈ ALLW := wAll (wT4 0 rfl) rfl
set_option maxRecDepth 8000 in
theorem wF_X8_16 : Cond.fieldLink "CavershamShift$Station" 16 "CavershamShift$Station" "power" "I" ∈ ALLW := wAll (wT4 1 rfl) rfl
set_option maxRecDepth 8000 in
theorem wF_X0_41 : Cond.fieldLink "CavershamShift$Dial" 41 "CavershamShift$Station" "power" "I" ∈ ALLW := wAll (wT4 2 rfl) rfl
set_option maxRecDepth 8000 in
theorem wF_X10_440 : Cond.fieldLink "CavershamShift" 440 "CavershamShift$Station" "power" "I" ∈ ALLW := wAll (wT4 3 rfl) rfl
set_option maxRecDepth 8000 in
theorem wF_X8_19 : Cond.fieldLink "CavershamShift$Station" 19 "CavershamShift$Station" "far" "I" ∈ ALLW := wAll (wT4 4 rfl) rfl
set_option maxRecDepth 8000 in
theorem wF_X0_45 : Cond.fieldLink "CavershamShift$Dial" 45 "CavershamShift$Station" "far" "I" ∈ ALLW := wAll (wT4 5 rfl) rfl
set_option maxRecDepth 8000 in
theorem wF_X10_441 : Cond.fieldLink "CavershamShift" 441 "CavershamShift$Station" "far" "I" ∈ ALLW := wAll (wT4 6 rfl) rfl
set_option maxRecDepth 8000 in
theorem wF_X8_22 : Cond.fieldLink "CavershamShift$Station" 22 "CavershamShift$Station" "land" "I" ∈ ALLW := wAll (wT4 7 rfl) rfl
set_option maxRecDepth 8000 in
theorem wF_X9_65 : Cond.fieldLink "CavershamShift$Talk" 65 "CavershamShift$Station" "land" "I" ∈ ALLW := wAll (wT4 8 rfl) rfl
set_option maxRecDepth 8000 in
theorem wF_X4_62 : Cond.fieldLink "CavershamShift$Newsroom" 62 "CavershamShift$Station" "land" "I" ∈ ALLW := wAll (wT4 9 rfl) rfl
set_option maxRecDepth 8000 in
theorem wF_X10_444 : Cond.fieldLink "CavershamShift" 444 "CavershamShift$Station" "land" "I" ∈ ALLW := wAll (wT4 10 rfl) rfl
set_option maxRecDepth 8000 in
theorem wF_X8_25 : Cond.fieldLink "CavershamShift$Station" 25 "CavershamShift$Station" "tongue" "I" ∈ ALLW := wAll (wT4 11 rfl) rfl
set_option maxRecDepth 8000 in
theorem wF_X7_67 : Cond.fieldLink "CavershamShift$Room" 67 "CavershamShift$Station" "tongue" "I" ∈ ALLW := wAll (wT4 12 rfl) rfl
set_option maxRecDepth 8000 in
theorem wF_X10_447 : Cond.fieldLink "CavershamShift" 447 "CavershamShift$Station" "tongue" "I" ∈ ALLW := wAll (wT4 13 rfl) rfl
set_option maxRecDepth 8000 in
theorem wF_X8_28 : Cond.fieldLink "CavershamShift$Station" 28 "CavershamShift$Station" "hours" "I" ∈ ALLW := wAll (wT4 14 rfl) rfl
set_option maxRecDepth 8000 in
theorem wM_X10_82 : Cond.methodLink "CavershamShift" 82 yJx4a65c_add_9ea2d ∈ ALLW := wAll (wT4 30 rfl) rfl
set_option maxRecDepth 8000 in
theorem wM_L_138 : Cond.methodLink "CavershamShiftLaw" 138 yL_drift ∈ ALLW := wAll (wT4 31 rfl) rfl
set_option maxRecDepth 8000 in
theorem wSt_L_drift : Cond.static yL_drift ∈ ALLW := wAll (wT4 32 rfl) rfl
set_option maxRecDepth 8000 in
theorem wYW_L_drift : Cond.codeWith yL_drift cL_drift 5 (Option.some .int) [(0, 11, 14, 27), (0, 11, 18, 19)] ∈ ALLW := wAll (wT4 33 rfl) rfl
set_option maxRecDepth 8000 in
theorem wC_L_27 : Cond.classLink "CavershamShiftLaw" 27 "java/lang/IndexOutOfBoundsException" ∈ ALLW := wAll (wT4 34 rfl) rfl
set_option maxRecDepth 8000 in
theorem wM_L_23 : Cond.methodLink "CavershamShiftLaw" 23 yX10_drift ∈ ALLW := wAll (wT4 35 rfl) rfl
set_option maxRecDepth 8000 in
theorem wIn_X10_drift : Cond.instanceMethod yX10_drift ∈ ALLW := wAll (wT4 36 rfl) rfl
set_option maxRecDepth 8000 in
theorem wSe_X10_X10_drift : Cond.selects "CavershamShift" yX10_drift yX10_drift ∈ ALLW := wAll (wT4 37 rfl) rfl
set_option maxRecDepth 8000 in
theorem wY_X10_drift : Cond.code yX10_drift cX10_drift 5 (Option.some .int) ∈ ALLW := wAll (wT4 38 rfl) rfl
set_option maxRecDepth 8000 in
theorem wM_X10_86 : Cond.methodLink "CavershamShift" 86 yX0_stationAt ∈ ALLW := wAll (wT4 39 rfl) rfl
set_option maxRecDepth 8000 in
theorem wC_X10_90 : Cond.classLink "CavershamShift" 90 "java/lang/IndexOutOfBoundsException" ∈ ALLW := wAll (wT4 40 rfl) rfl
set_option maxRecDepth 8000 in
theorem wCa_java_lang_IndexOutOfBoundsException_java_lang_IndexOutOfBoundsException : Cond.castable "java/lang/IndexOutOfBoundsException" "java/lang/IndexOutOfBoundsException" ∈ NSTW := wNst (wT4 42 rfl) rfl
set_option maxRecDepth 8000 in
theorem wM_L_142 : Cond.methodLink "CavershamShiftLaw" 142 yL_jammer ∈ ALLW := wAll (wT4 57 rfl) rfl
set_option maxRecDepth 8000 in
theorem wSt_L_jammer : Cond.static yL_jammer ∈ ALLW := wAll (wT4 58 rfl) rfl
set_option maxRecDepth 8000 in
theorem wYW_L_jammer : Cond.codeWith yL_jammer cL_jammer 5 (Option.some .int) [(0, 11, 14, 19), (0, 11, 18, 21)] ∈ ALLW := wAll (wT4 59 rfl) rfl
set_option maxRecDepth 8000 in
theorem wM_L_29 : Cond.methodLink "CavershamShiftLaw" 29 yX10_jammer ∈ ALLW := wAll (wT4 60 rfl) rfl
set_option maxRecDepth 8000 in
theorem wIn_X10_jammer : Cond.instanceMethod yX10_jammer ∈ ALLW := wAll (wT4 61 rfl) rfl
set_option maxRecDepth 8000 in
theorem wSe_X10_X10_jammer : Cond.selects "CavershamShift" yX10_jammer yX10_jammer ∈ ALLW := wAll (wT4 62 rfl) rfl
set_option maxRecDepth 8000 in
theorem wY_X10_jammer : Cond.code yX10_jammer cX10_jammer 4 (Option.some .int) ∈ ALLW := wAll (wT4 63 rfl) rfl
set_option maxRecDepth 8000 in
theorem wC_X10_106 : Cond.classLink "CavershamShift" 106 "CavershamShift$Jammer" ∈ ALLW := wAll (wT4 66 rfl) rfl
set_option maxRecDepth 8000 in
theorem wNew_X1 : Cond.instantiable "CavershamShift$Jammer" 2 ∈ ALLW := wAll (wT4 67 rfl) rfl
set_option maxRecDepth 8000 in
theorem wM_X10_108 : Cond.methodLink "CavershamShift" 108 yX1_init ∈ ALLW := wAll (wT4 68 rfl) rfl
set_option maxRecDepth 8000 in
theorem wIn_X1_init : Cond.instanceMethod yX1_init ∈ ALLW := wAll (wT4 69 rfl) rfl
set_option maxRecDepth 8000 in
theorem wY_X1_init : Cond.code yX1_init cX1_init 3 (none) ∈ ALLW := wAll (wT4 70 rfl) rfl
set_option maxRecDepth 8000 in
theorem wM_X1_1 : Cond.methodLink "CavershamShift$Jammer" 1 objectInit ∈ ALLW := wAll (wT4 71 rfl) rfl
set_option maxRecDepth 8000 in
theorem wF_X1_7 : Cond.fieldLink "CavershamShift$Jammer" 7 "CavershamShift$Jammer" "band" "I" ∈ ALLW := wAll (wT4 72 rfl) rfl
set_option maxRecDepth 8000 in
theorem wF_X0_54 : Cond.fieldLink "CavershamShift$Dial" 54 "CavershamShift$Jammer" "band" "I" ∈ ALLW := wAll (wT4 73 rfl) rfl
set_option maxRecDepth 8000 in
theorem wF_X1_13 : Cond.fieldLink "CavershamShift$Jammer" 13 "CavershamShift$Jammer" "power" "I" ∈ ALLW := wAll (wT4 74 rfl) rfl
set_option maxRecDepth 8000 in
theorem wF_X0_59 : Cond.fieldLink "CavershamShift$Dial" 59 "CavershamShift$Jammer" "power" "I" ∈ ALLW := wAll (wT4 75 rfl) rfl
set_option maxRecDepth 8000 in
theorem wF_X10_119 : Cond.fieldLink "CavershamShift" 119 "CavershamShift$Jammer" "power" "I" ∈ ALLW := wAll (wT4 76 rfl) rfl
set_option maxRecDepth 8000 in
theorem wM_L_145 : Cond.methodLink "CavershamShiftLaw" 145 yL_jam ∈ ALLW := wAll (wT4 82 rfl) rfl
set_option maxRecDepth 8000 in
theorem wSt_L_jam : Cond.static yL_jam ∈ ALLW := wAll (wT4 83 rfl) rfl
set_option maxRecDepth 8000 in
theorem wYW_L_jam : Cond.codeWith yL_jam cL_jam 5 (Option.some .int) [(0, 11, 14, 27), (0, 11, 18, 19)] ∈ ALLW := wAll (wT4 84 rfl) rfl
set_option maxRecDepth 8000 in
theorem wM_L_32 : Cond.methodLink "CavershamShiftLaw" 32 yX10_jam ∈ ALLW := wAll (wT4 85 rfl) rfl
set_option maxRecDepth 8000 in
theorem wIn_X10_jam : Cond.instanceMethod yX10_jam ∈ ALLW := wAll (wT4 86 rfl) rfl
set_option maxRecDepth 8000 in
theorem wSe_X10_X10_jam : Cond.selects "CavershamShift" yX10_jam yX10_jam ∈ ALLW := wAll (wT4 87 rfl) rfl
set_option maxRecDepth 8000 in
theorem wY_X10_jam : Cond.code yX10_jam cX10_jam 5 (Option.some .int) ∈ ALLW := wAll (wT4 88 rfl) rfl
set_option maxRecDepth 8000 in
theorem wM_X10_111 : Cond.methodLink "CavershamShift" 111 yX0_jammerAt ∈ ALLW := wAll (wT4 89 rfl) rfl
set_option maxRecDepth 8000 in
theorem wIn_X0_jammerAt : Cond.instanceMethod yX0_jammerAt ∈ ALLW := wAll (wT4 90 rfl) rfl
set_option maxRecDepth 8000 in
theorem wSe_X0_X0_jammerAt : Cond.selects "CavershamShift$Dial" yX0_jammerAt yX0_jammerAt ∈ ALLW := wAll (wT4 91 rfl) rfl
set_option maxRecDepth 8000 in
theorem wY_X0_jammerAt : Cond.code yX0_jammerAt cX0_jammerAt 2 (Option.some (.object "CavershamShift$Jammer")) ∈ ALLW := wAll (wT4 92 rfl) rfl
set_option maxRecDepth 8000 in
theorem wM_L_148 : Cond.methodLink "CavershamShiftLaw" 148 yL_monitor ∈ ALLW := wAll (wT4 95 rfl) rfl
set_option maxRecDepth 8000 in
theorem wSt_L_monitor : Cond.static yL_monitor ∈ ALLW := wAll (wT4 96 rfl) rfl
set_option maxRecDepth 8000 in
theorem wYW_L_monitor : Cond.codeWith yL_monitor cL_monitor 4 (Option.some .int) [(0, 10, 13, 19), (0, 10, 16, 21)] ∈ ALLW := wAll (wT4 97 rfl) rfl
set_option maxRecDepth 8000 in
theorem wM_L_35 : Cond.methodLink "CavershamShiftLaw" 35 yX10_monitor ∈ ALLW := wAll (wT4 98 rfl) rfl
set_option maxRecDepth 8000 in
theorem wIn_X10_monitor : Cond.instanceMethod yX10_monitor ∈ ALLW := wAll (wT4 99 rfl) rfl
set_option maxRecDepth 8000 in
theorem wSe_X10_X10_monitor : Cond.selects "CavershamShift" yX10_monitor yX10_monitor ∈ ALLW := wAll (wT4 100 rfl) rfl
set_option maxRecDepth 8000 in
theorem wY_X10_monitor : Cond.code yX10_monitor cX10_monitor 3 (Option.some .int) ∈ ALLW := wAll (wT4 101 rfl) rfl
set_option maxRecDepth 8000 in
theorem wK_X10_121 : Cond.constant "CavershamShift" 121 (99999) ∈ ALLW := wAll (wT4 102 rfl) rfl
set_option maxRecDepth 8000 in
theorem wNew_X3 : Cond.instantiable "CavershamShift$Monitor" 4 ∈ ALLW := wAll (wT4 105 rfl) rfl
set_option maxRecDepth 8000 in
theorem wM_X10_131 : Cond.methodLink "CavershamShift" 131 yX3_init ∈ ALLW := wAll (wT4 106 rfl) rfl
set_option maxRecDepth 8000 in
theorem wIn_X3_init : Cond.instanceMethod yX3_init ∈ ALLW := wAll (wT4 107 rfl) rfl
set_option maxRecDepth 8000 in
theorem wY_X3_init : Cond.code yX3_init cX3_init 3 (none) ∈ ALLW := wAll (wT4 108 rfl) rfl
set_option maxRecDepth 8000 in
theorem wM_X3_1 : Cond.methodLink "CavershamShift$Monitor" 1 objectInit ∈ ALLW := wAll (wT4 109 rfl) rfl
set_option maxRecDepth 8000 in
theorem wF_X3_7 : Cond.fieldLink "CavershamShift$Monitor" 7 "CavershamShift$Monitor" "number" "I" ∈ ALLW := wAll (wT4 110 rfl) rfl
set_option maxRecDepth 8000 in
theorem wF_X7_101 : Cond.fieldLink "CavershamShift$Room" 101 "CavershamShift$Monitor" "number" "I" ∈ ALLW := wAll (wT4 111 rfl) rfl
set_option maxRecDepth 8000 in
theorem wF_X4_145 : Cond.fieldLink "CavershamShift$Newsroom" 145 "CavershamShift$Monitor" "number" "I" ∈ ALLW := wAll (wT4 112 rfl) rfl
set_option maxRecDepth 8000 in
theorem wF_X10_467 : Cond.fieldLink "CavershamShift" 467 "CavershamShift$Monitor" "number" "I" ∈ ALLW := wAll (wT4 113 rfl) rfl
set_option maxRecDepth 8000 in
theorem wF_X3_13 : Cond.fieldLink "CavershamShift$Monitor" 13 "CavershamShift$Monitor" "skills" "I" ∈ ALLW := wAll (wT4 114 rfl) rfl
set_option maxRecDepth 8000 in
theorem wF_X7_77 : Cond.fieldLink "CavershamShift$Room" 77 "CavershamShift$Monitor" "weary" "I" ∈ ALLW := wAll (wT4 115 rfl) rfl
set_option maxRecDepth 8000 in
theorem wF_X10_457 : Cond.fieldLink "CavershamShift" 457 "CavershamShift$Monitor" "weary" "I" ∈ ALLW := wAll (wT4 116 rfl) rfl
set_option maxRecDepth 8000 in
theorem wF_X7_105 : Cond.fieldLink "CavershamShift$Room" 105 "CavershamShift$Monitor" "hoursSat" "I" ∈ ALLW := wAll (wT4 117 rfl) rfl
set_option maxRecDepth 8000 in
theorem wF_X10_460 : Cond.fieldLink "CavershamShift" 460 "CavershamShift$Monitor" "hoursSat" "I" ∈ ALLW := wAll (wT4 118 rfl) rfl
set_option maxRecDepth 8000 in
theorem wM_L_152 : Cond.methodLink "CavershamShiftLaw" 152 yL_shift ∈ ALLW := wAll (wT4 128 rfl) rfl
set_option maxRecDepth 8000 in
theorem wSt_L_shift : Cond.static yL_shift ∈ ALLW := wAll (wT4 129 rfl) rfl
set_option maxRecDepth 8000 in
theorem wYW_L_shift : Cond.codeWith yL_shift cL_shift 7 (Option.some .int) [(0, 15, 18, 27), (0, 15, 22, 19), (0, 15, 26, 21)] ∈ ALLW := wAll (wT4 130 rfl) rfl
set_option maxRecDepth 8000 in
theorem wM_L_39 : Cond.methodLink "CavershamShiftLaw" 39 yX10_shift ∈ ALLW := wAll (wT4 131 rfl) rfl
set_option maxRecDepth 8000 in
theorem wIn_X10_shift : Cond.instanceMethod yX10_shift ∈ ALLW := wAll (wT4 132 rfl) rfl
set_option maxRecDepth 8000 in
theorem wSe_X10_X10_shift : Cond.selects "CavershamShift" yX10_shift yX10_shift ∈ ALLW := wAll (wT4 133 rfl) rfl
set_option maxRecDepth 8000 in
theorem wY_X10_shift : Cond.code yX10_shift cX10_shift 6 (Option.some .int) ∈ ALLW := wAll (wT4 134 rfl) rfl
set_option maxRecDepth 8000 in
theorem wM_X10_134 : Cond.methodLink "CavershamShift" 134 yX7_monitorAt ∈ ALLW := wAll (wT4 136 rfl) rfl
set_option maxRecDepth 8000 in
theorem wM_X10_142 : Cond.methodLink "CavershamShift" 142 yX7_sitsElsewhere ∈ ALLW := wAll (wT4 139 rfl) rfl
set_option maxRecDepth 8000 in
theorem wM_X10_147 : Cond.methodLink "CavershamShift" 147 yX7_stationIn ∈ ALLW := wAll (wT4 141 rfl) rfl
set_option maxRecDepth 8000 in
theorem wIn_X7_stationIn : Cond.instanceMethod yX7_stationIn ∈ ALLW := wAll (wT4 142 rfl) rfl
set_option maxRecDepth 8000 in
theorem wSe_X7_X7_stationIn : Cond.selects "CavershamShift$Room" yX7_stationIn yX7_stationIn ∈ ALLW := wAll (wT4 143 rfl) rfl
set_option maxRecDepth 8000 in
theorem wY_X7_stationIn : Cond.code yX7_stationIn cX7_stationIn 3 (Option.some .int) ∈ ALLW := wAll (wT4 144 rfl) rfl
set_option maxRecDepth 8000 in
theorem wM_X10_151 : Cond.methodLink "CavershamShift" 151 yX7_write ∈ ALLW := wAll (wT4 145 rfl) rfl
set_option maxRecDepth 8000 in
theorem wIn_X7_write : Cond.instanceMethod yX7_write ∈ ALLW := wAll (wT4 146 rfl) rfl
set_option maxRecDepth 8000 in
theorem wSe_X7_X7_write : Cond.selects "CavershamShift$Room" yX7_write yX7_write ∈ ALLW := wAll (wT4 147 rfl) rfl
set_option maxRecDepth 8000 in
theorem wY_X7_write : Cond.code yX7_write cX7_write 5 (none) ∈ ALLW := wAll (wT4 148 rfl) rfl
set_option maxRecDepth 8000 in
theorem wM_L_156 : Cond.methodLink "CavershamShiftLaw" 156 yL_talk ∈ ALLW := wAll (wT4 149 rfl) rfl
set_option maxRecDepth 8000 in
theorem wSt_L_talk : Cond.static yL_talk ∈ ALLW := wAll (wT4 150 rfl) rfl
set_option maxRecDepth 8000 in
theorem wYW_L_talk : Cond.codeWith yL_talk cL_talk 9 (Option.some .int) [(0, 19, 22, 27), (0, 19, 26, 19), (0, 19, 30, 21)] ∈ ALLW := wAll (wT4 151 rfl) rfl
set_option maxRecDepth 8000 in
theorem wM_L_43 : Cond.methodLink "CavershamShiftLaw" 43 yX10_talk ∈ ALLW := wAll (wT4 152 rfl) rfl
set_option maxRecDepth 8000 in
theorem wIn_X10_talk : Cond.instanceMethod yX10_talk ∈ ALLW := wAll (wT4 153 rfl) rfl
set_option maxRecDepth 8000 in
theorem wSe_X10_X10_talk : Cond.selects "CavershamShift" yX10_talk yX10_talk ∈ ALLW := wAll (wT4 154 rfl) rfl
set_option maxRecDepth 8000 in
theorem wY_X10_talk : Cond.code yX10_talk cX10_talk 9 (Option.some .int) ∈ ALLW := wAll (wT4 155 rfl) rfl
set_option maxRecDepth 8000 in
theorem wK_X10_159 : Cond.constant "CavershamShift" 159 (65535) ∈ ALLW := wAll (wT4 158 rfl) rfl
set_option maxRecDepth 8000 in
theorem wM_X10_171 : Cond.methodLink "CavershamShift" 171 yX4_hasTalk ∈ ALLW := wAll (wT4 161 rfl) rfl
set_option maxRecDepth 8000 in
theorem wIn_X4_hasTalk : Cond.instanceMethod yX4_hasTalk ∈ ALLW := wAll (wT4 162 rfl) rfl
set_option maxRecDepth 8000 in
theorem wSe_X4_X4_hasTalk : Cond.selects "CavershamShift$Newsroom" yX4_hasTalk yX4_hasTalk ∈ ALLW := wAll (wT4 163 rfl) rfl
set_option maxRecDepth 8000 in
theorem wY_X4_hasTalk : Cond.code yX4_hasTalk cX4_hasTalk 5 (Option.some .boolean) ∈ ALLW := wAll (wT4 164 rfl) rfl
set_option maxRecDepth 8000 in
theorem wNew_X9 : Cond.instantiable "CavershamShift$Talk" 9 ∈ ALLW := wAll (wT4 166 rfl) rfl
set_option maxRecDepth 8000 in
theorem wM_X10_179 : Cond.methodLink "CavershamShift" 179 yX9_init ∈ ALLW := wAll (wT4 167 rfl) rfl
set_option maxRecDepth 8000 in
theorem wIn_X9_init : Cond.instanceMethod yX9_init ∈ ALLW := wAll (wT4 168 rfl) rfl
set_option maxRecDepth 8000 in
theorem wY_X9_init : Cond.code yX9_init cX9_init 8 (none) ∈ ALLW := wAll (wT4 169 rfl) rfl
set_option maxRecDepth 8000 in
theorem wM_X9_3 : Cond.methodLink "CavershamShift$Talk" 3 objectInit ∈ ALLW := wAll (wT4 170 rfl) rfl
set_option maxRecDepth 8000 in
theorem wF_X9_15 : Cond.fieldLink "CavershamShift$Talk" 15 "CavershamShift$Talk" "number" "I" ∈ ALLW := wAll (wT4 171 rfl) rfl
set_option maxRecDepth 8000 in
theorem wF_X4_171 : Cond.fieldLink "CavershamShift$Newsroom" 171 "CavershamShift$Talk" "number" "I" ∈ ALLW := wAll (wT4 172 rfl) rfl
set_option maxRecDepth 8000 in
theorem wF_X10_314 : Cond.fieldLink "CavershamShift" 314 "CavershamShift$Talk" "number" "I" ∈ ALLW := wAll (wT4 173 rfl) rfl
set_option maxRecDepth 8000 in
theorem wF_X9_18 : Cond.fieldLink "CavershamShift$Talk" 18 "CavershamShift$Talk" "station" "LCavershamShift$Station;" ∈ ALLW := wAll (wT4 174 rfl) rfl
set_option maxRecDepth 8000 in
theorem wF_X4_44 : Cond.fieldLink "CavershamShift$Newsroom" 44 "CavershamShift$Talk" "station" "LCavershamShift$Station;" ∈ ALLW := wAll (wT4 175 rfl) rfl
set_option maxRecDepth 8000 in
theorem wF_X10_326 : Cond.fieldLink "CavershamShift" 326 "CavershamShift$Talk" "station" "LCavershamShift$Station;" ∈ ALLW := wAll (wT4 176 rfl) rfl
set_option maxRecDepth 8000 in
theorem wF_X9_22 : Cond.fieldLink "CavershamShift$Talk" 22 "CavershamShift$Talk" "hour" "I" ∈ ALLW := wAll (wT4 177 rfl) rfl
set_option maxRecDepth 8000 in
theorem wF_X4_48 : Cond.fieldLink "CavershamShift$Newsroom" 48 "CavershamShift$Talk" "hour" "I" ∈ ALLW := wAll (wT4 178 rfl) rfl
set_option maxRecDepth 8000 in
theorem wF_X10_333 : Cond.fieldLink "CavershamShift" 333 "CavershamShift$Talk" "hour" "I" ∈ ALLW := wAll (wT4 179 rfl) rfl
set_option maxRecDepth 8000 in
theorem wF_X9_25 : Cond.fieldLink "CavershamShift$Talk" 25 "CavershamShift$Talk" "topic" "I" ∈ ALLW := wAll (wT4 180 rfl) rfl
set_option maxRecDepth 8000 in
theorem wF_X4_168 : Cond.fieldLink "CavershamShift$Newsroom" 168 "CavershamShift$Talk" "topic" "I" ∈ ALLW := wAll (wT4 181 rfl) rfl
set_option maxRecDepth 8000 in
theorem wF_X10_474 : Cond.fieldLink "CavershamShift" 474 "CavershamShift$Talk" "topic" "I" ∈ ALLW := wAll (wT4 182 rfl) rfl
set_option maxRecDepth 8000 in
theorem wF_X9_28 : Cond.fieldLink "CavershamShift$Talk" 28 "CavershamShift$Talk" "words" "I" ∈ ALLW := wAll (wT4 183 rfl) rfl
set_option maxRecDepth 8000 in
theorem wF_X6_42 : Cond.fieldLink "CavershamShift$Report" 42 "CavershamShift$Talk" "words" "I" ∈ ALLW := wAll (wT4 184 rfl) rfl
set_option maxRecDepth 8000 in
theorem wF_X10_477 : Cond.fieldLink "CavershamShift" 477 "CavershamShift$Talk" "words" "I" ∈ ALLW := wAll (wT4 185 rfl) rfl
set_option maxRecDepth 8000 in
theorem wF_X6_30 : Cond.fieldLink "CavershamShift$Report" 30 "CavershamShift$Talk" "weight" "I" ∈ ALLW := wAll (wT4 186 rfl) rfl
set_option maxRecDepth 8000 in
theorem wF_X9_31 : Cond.fieldLink "CavershamShift$Talk" 31 "CavershamShift$Talk" "weight" "I" ∈ ALLW := wAll (wT4 187 rfl) rfl
set_option maxRecDepth 8000 in
theorem wF_X4_89 : Cond.fieldLink "CavershamShift$Newsroom" 89 "CavershamShift$Talk" "weight" "I" ∈ ALLW := wAll (wT4 188 rfl) rfl
set_option maxRecDepth 8000 in
theorem wF_X10_480 : Cond.fieldLink "CavershamShift" 480 "CavershamShift$Talk" "weight" "I" ∈ ALLW := wAll (wT4 189 rfl) rfl
set_option maxRecDepth 8000 in
theorem wF_X9_34 : Cond.fieldLink "CavershamShift$Talk" 34 "CavershamShift$Talk" "formulas" "I" ∈ ALLW := wAll (wT4 190 rfl) rfl
set_option maxRecDepth 8000 in
theorem wF_X6_55 : Cond.fieldLink "CavershamShift$Report" 55 "CavershamShift$Talk" "formulas" "I" ∈ ALLW := wAll (wT4 191 rfl) rfl
set_option maxRecDepth 8000 in
theorem wF_X10_483 : Cond.fieldLink "CavershamShift" 483 "CavershamShift$Talk" "formulas" "I" ∈ ALLW := wAll (wT4 192 rfl) rfl
set_option maxRecDepth 8000 in
theorem wF_X9_9 : Cond.fieldLink "CavershamShift$Talk" 9 "CavershamShift$Talk" "print" "I" ∈ ALLW := wAll (wT4 193 rfl) rfl
set_option maxRecDepth 8000 in
theorem wF_X10_188 : Cond.fieldLink "CavershamShift" 188 "CavershamShift$Talk" "print" "I" ∈ ALLW := wAll (wT4 194 rfl) rfl
set_option maxRecDepth 8000 in
theorem wF_X9_41 : Cond.fieldLink "CavershamShift$Talk" 41 "CavershamShift$Talk" "report" "LCavershamShift$Report;" ∈ ALLW := wAll (wT4 195 rfl) rfl
set_option maxRecDepth 8000 in
theorem wF_X4_71 : Cond.fieldLink "CavershamShift$Newsroom" 71 "CavershamShift$Talk" "report" "LCavershamShift$Report;" ∈ ALLW := wAll (wT4 196 rfl) rfl
set_option maxRecDepth 8000 in
theorem wF_X10_197 : Cond.fieldLink "CavershamShift" 197 "CavershamShift$Talk" "report" "LCavershamShift$Report;" ∈ ALLW := wAll (wT4 197 rfl) rfl
set_option maxRecDepth 8000 in
theorem wM_L_159 : Cond.methodLink "CavershamShiftLaw" 159 yL_print ∈ ALLW := wAll (wT4 217 rfl) rfl
set_option maxRecDepth 8000 in
theorem wSt_L_print : Cond.static yL_print ∈ ALLW := wAll (wT4 218 rfl) rfl
set_option maxRecDepth 8000 in
theorem wYW_L_print : Cond.codeWith yL_print cL_print 5 (Option.some .int) [(0, 11, 14, 27), (0, 11, 18, 19), (0, 11, 22, 21)] ∈ ALLW := wAll (wT4 219 rfl) rfl
set_option maxRecDepth 8000 in
theorem wM_L_46 : Cond.methodLink "CavershamShiftLaw" 46 yX10_print ∈ ALLW := wAll (wT4 220 rfl) rfl
set_option maxRecDepth 8000 in
theorem wIn_X10_print : Cond.instanceMethod yX10_print ∈ ALLW := wAll (wT4 221 rfl) rfl
set_option maxRecDepth 8000 in
theorem wSe_X10_X10_print : Cond.selects "CavershamShift" yX10_print yX10_print ∈ ALLW := wAll (wT4 222 rfl) rfl
set_option maxRecDepth 8000 in
theorem wY_X10_print : Cond.code yX10_print cX10_print 5 (Option.some .int) ∈ ALLW := wAll (wT4 223 rfl) rfl
set_option maxRecDepth 8000 in
theorem wM_X10_182 : Cond.methodLink "CavershamShift" 182 yX4_talkAt ∈ ALLW := wAll (wT4 224 rfl) rfl
set_option maxRecDepth 8000 in
theorem wIn_X4_talkAt : Cond.instanceMethod yX4_talkAt ∈ ALLW := wAll (wT4 225 rfl) rfl
set_option maxRecDepth 8000 in
theorem wSe_X4_X4_talkAt : Cond.selects "CavershamShift$Newsroom" yX4_talkAt yX4_talkAt ∈ ALLW := wAll (wT4 226 rfl) rfl
set_option maxRecDepth 8000 in
theorem wY_X4_talkAt : Cond.code yX4_talkAt cX4_talkAt 2 (Option.some (.object "CavershamShift$Talk")) ∈ ALLW := wAll (wT4 227 rfl) rfl
set_option maxRecDepth 8000 in
theorem wM_X10_193 : Cond.methodLink "CavershamShift" 193 yX4_awaitCorrection ∈ ALLW := wAll (wT4 230 rfl) rfl
set_option maxRecDepth 8000 in
theorem wM_X10_201 : Cond.methodLink "CavershamShift" 201 yX6_formulas ∈ ALLW := wAll (wT4 231 rfl) rfl
set_option maxRecDepth 8000 in
theorem wM_L_162 : Cond.methodLink "CavershamShiftLaw" 162 yL_reader ∈ ALLW := wAll (wT4 232 rfl) rfl
set_option maxRecDepth 8000 in
theorem wSt_L_reader : Cond.static yL_reader ∈ ALLW := wAll (wT4 233 rfl) rfl
set_option maxRecDepth 8000 in
theorem wYW_L_reader : Cond.codeWith yL_reader cL_reader 5 (Option.some .int) [(0, 11, 14, 19), (0, 11, 18, 21)] ∈ ALLW := wAll (wT4 234 rfl) rfl
set_option maxRecDepth 8000 in
theorem wM_L_49 : Cond.methodLink "CavershamShiftLaw" 49 yX10_reader ∈ ALLW := wAll (wT4 235 rfl) rfl
set_option maxRecDepth 8000 in
theorem wIn_X10_reader : Cond.instanceMethod yX10_reader ∈ ALLW := wAll (wT4 236 rfl) rfl
set_option maxRecDepth 8000 in
theorem wSe_X10_X10_reader : Cond.selects "CavershamShift" yX10_reader yX10_reader ∈ ALLW := wAll (wT4 237 rfl) rfl
set_option maxRecDepth 8000 in
theorem wY_X10_reader : Cond.code yX10_reader cX10_reader 4 (Option.some .int) ∈ ALLW := wAll (wT4 238 rfl) rfl
set_option maxRecDepth 8000 in
theorem wNew_X5 : Cond.instantiable "CavershamShift$Reader" 3 ∈ ALLW := wAll (wT5 1 rfl) rfl
set_option maxRecDepth 8000 in
theorem wM_X10_214 : Cond.methodLink "CavershamShift" 214 yX5_init ∈ ALLW := wAll (wT5 2 rfl) rfl
set_option maxRecDepth 8000 in
theorem wIn_X5_init : Cond.instanceMethod yX5_init ∈ ALLW := wAll (wT5 3 rfl) rfl
set_option maxRecDepth 8000 in
theorem wY_X5_init : Cond.code yX5_init cX5_init 4 (none) ∈ ALLW := wAll (wT5 4 rfl) rfl
set_option maxRecDepth 8000 in
theorem wM_X5_1 : Cond.methodLink "CavershamShift$Reader" 1 objectInit ∈ ALLW := wAll (wT5 5 rfl) rfl
set_option maxRecDepth 8000 in
theorem wF_X5_7 : Cond.fieldLink "CavershamShift$Reader" 7 "CavershamShift$Reader" "number" "I" ∈ ALLW := wAll (wT5 6 rfl) rfl
set_option maxRecDepth 8000 in
theorem wF_X9_76 : Cond.fieldLink "CavershamShift$Talk" 76 "CavershamShift$Reader" "number" "I" ∈ ALLW := wAll (wT5 7 rfl) rfl
set_option maxRecDepth 8000 in
theorem wF_X5_13 : Cond.fieldLink "CavershamShift$Reader" 13 "CavershamShift$Reader" "lands" "I" ∈ ALLW := wAll (wT5 8 rfl) rfl
set_option maxRecDepth 8000 in
theorem wF_X9_60 : Cond.fieldLink "CavershamShift$Talk" 60 "CavershamShift$Reader" "lands" "I" ∈ ALLW := wAll (wT5 9 rfl) rfl
set_option maxRecDepth 8000 in
theorem wF_X10_223 : Cond.fieldLink "CavershamShift" 223 "CavershamShift$Reader" "lands" "I" ∈ ALLW := wAll (wT5 10 rfl) rfl
set_option maxRecDepth 8000 in
theorem wF_X5_16 : Cond.fieldLink "CavershamShift$Reader" 16 "CavershamShift$Reader" "topics" "I" ∈ ALLW := wAll (wT5 11 rfl) rfl
set_option maxRecDepth 8000 in
theorem wF_X9_70 : Cond.fieldLink "CavershamShift$Talk" 70 "CavershamShift$Reader" "topics" "I" ∈ ALLW := wAll (wT5 12 rfl) rfl
set_option maxRecDepth 8000 in
theorem wF_X10_226 : Cond.fieldLink "CavershamShift" 226 "CavershamShift$Reader" "topics" "I" ∈ ALLW := wAll (wT5 13 rfl) rfl
set_option maxRecDepth 8000 in
theorem wM_L_165 : Cond.methodLink "CavershamShiftLaw" 165 yL_ask ∈ ALLW := wAll (wT5 21 rfl) rfl
set_option maxRecDepth 8000 in
theorem wSt_L_ask : Cond.static yL_ask ∈ ALLW := wAll (wT5 22 rfl) rfl
set_option maxRecDepth 8000 in
theorem wYW_L_ask : Cond.codeWith yL_ask cL_ask 6 (Option.some .int) [(0, 13, 16, 27), (0, 13, 20, 19)] ∈ ALLW := wAll (wT5 23 rfl) rfl
set_option maxRecDepth 8000 in
theorem wM_L_52 : Cond.methodLink "CavershamShiftLaw" 52 yX10_ask ∈ ALLW := wAll (wT5 24 rfl) rfl
set_option maxRecDepth 8000 in
theorem wIn_X10_ask : Cond.instanceMethod yX10_ask ∈ ALLW := wAll (wT5 25 rfl) rfl
set_option maxRecDepth 8000 in
theorem wSe_X10_X10_ask : Cond.selects "CavershamShift" yX10_ask yX10_ask ∈ ALLW := wAll (wT5 26 rfl) rfl
set_option maxRecDepth 8000 in
theorem wY_X10_ask : Cond.code yX10_ask cX10_ask 5 (Option.some .int) ∈ ALLW := wAll (wT5 27 rfl) rfl
set_option maxRecDepth 8000 in
theorem wM_X10_217 : Cond.methodLink "CavershamShift" 217 yX4_readerAt ∈ ALLW := wAll (wT5 28 rfl) rfl
set_option maxRecDepth 8000 in
theorem wIn_X4_readerAt : Cond.instanceMethod yX4_readerAt ∈ ALLW := wAll (wT5 29 rfl) rfl
set_option maxRecDepth 8000 in
theorem wSe_X4_X4_readerAt : Cond.selects "CavershamShift$Newsroom" yX4_readerAt yX4_readerAt ∈ ALLW := wAll (wT5 30 rfl) rfl
set_option maxRecDepth 8000 in
theorem wY_X4_readerAt : Cond.code yX4_readerAt cX4_readerAt 2 (Option.some (.object "CavershamShift$Reader")) ∈ ALLW := wAll (wT5 31 rfl) rfl
set_option maxRecDepth 8000 in
theorem wM_X10_229 : Cond.methodLink "CavershamShift" 229 yX4_countWaitingFor ∈ ALLW := wAll (wT5 33 rfl) rfl
set_option maxRecDepth 8000 in
theorem wIn_X4_countWaitingFor : Cond.instanceMethod yX4_countWaitingFor ∈ ALLW := wAll (wT5 34 rfl) rfl
set_option maxRecDepth 8000 in
theorem wSe_X4_X4_countWaitingFor : Cond.selects "CavershamShift$Newsroom" yX4_countWaitingFor yX4_countWaitingFor ∈ ALLW := wAll (wT5 35 rfl) rfl
set_option maxRecDepth 8000 in
theorem wY_X4_countWaitingFor : Cond.code yX4_countWaitingFor cX4_countWaitingFor 5 (Option.some .int) ∈ ALLW := wAll (wT5 36 rfl) rfl
set_option maxRecDepth 8000 in
theorem wM_L_169 : Cond.methodLink "CavershamShiftLaw" 169 yL_partner ∈ ALLW := wAll (wT5 37 rfl) rfl
set_option maxRecDepth 8000 in
theorem wSt_L_partner : Cond.static yL_partner ∈ ALLW := wAll (wT5 38 rfl) rfl
set_option maxRecDepth 8000 in
theorem wYW_L_partner : Cond.codeWith yL_partner cL_partner 4 (Option.some .int) [(0, 10, 13, 19)] ∈ ALLW := wAll (wT5 39 rfl) rfl
set_option maxRecDepth 8000 in
theorem wM_L_56 : Cond.methodLink "CavershamShiftLaw" 56 yX10_partner ∈ ALLW := wAll (wT5 40 rfl) rfl
set_option maxRecDepth 8000 in
theorem wIn_X10_partner : Cond.instanceMethod yX10_partner ∈ ALLW := wAll (wT5 41 rfl) rfl
set_option maxRecDepth 8000 in
theorem wSe_X10_X10_partner : Cond.selects "CavershamShift" yX10_partner yX10_partner ∈ ALLW := wAll (wT5 42 rfl) rfl
set_option maxRecDepth 8000 in
theorem wY_X10_partner : Cond.code yX10_partner cX10_partner 3 (Option.some .int) ∈ ALLW := wAll (wT5 43 rfl) rfl
set_option maxRecDepth 8000 in
theorem wM_L_172 : Cond.methodLink "CavershamShiftLaw" 172 yL_pass ∈ ALLW := wAll (wT5 45 rfl) rfl
set_option maxRecDepth 8000 in
theorem wSt_L_pass : Cond.static yL_pass ∈ ALLW := wAll (wT5 46 rfl) rfl
set_option maxRecDepth 8000 in
theorem wYW_L_pass : Cond.codeWith yL_pass cL_pass 4 (Option.some .int) [(0, 10, 13, 19), (0, 10, 16, 21)] ∈ ALLW := wAll (wT5 47 rfl) rfl
set_option maxRecDepth 8000 in
theorem wM_L_59 : Cond.methodLink "CavershamShiftLaw" 59 yX10_pass ∈ ALLW := wAll (wT5 48 rfl) rfl
set_option maxRecDepth 8000 in
theorem wIn_X10_pass : Cond.instanceMethod yX10_pass ∈ ALLW := wAll (wT5 49 rfl) rfl
set_option maxRecDepth 8000 in
theorem wSe_X10_X10_pass : Cond.selects "CavershamShift" yX10_pass yX10_pass ∈ ALLW := wAll (wT5 50 rfl) rfl
set_option maxRecDepth 8000 in
theorem wY_X10_pass : Cond.code yX10_pass cX10_pass 3 (Option.some .int) ∈ ALLW := wAll (wT5 51 rfl) rfl
set_option maxRecDepth 8000 in
theorem wM_X10_241 : Cond.methodLink "CavershamShift" 241 yX10_endHour ∈ ALLW := wAll (wT5 54 rfl) rfl
set_option maxRecDepth 8000 in
theorem wIn_X10_endHour : Cond.instanceMethod yX10_endHour ∈ ALLW := wAll (wT5 56 rfl) rfl
set_option maxRecDepth 8000 in
theorem wY_X10_endHour : Cond.code yX10_endHour cX10_endHour 5 (none) ∈ ALLW := wAll (wT5 57 rfl) rfl
set_option maxRecDepth 8000 in
theorem wM_X10_374 : Cond.methodLink "CavershamShift" 374 yX7_setThatHears ∈ ALLW := wAll (wT5 58 rfl) rfl
set_option maxRecDepth 8000 in
theorem wIn_X7_setThatHears : Cond.instanceMethod yX7_setThatHears ∈ ALLW := wAll (wT5 59 rfl) rfl
set_option maxRecDepth 8000 in
theorem wSe_X7_X7_setThatHears : Cond.selects "CavershamShift$Room" yX7_setThatHears yX7_setThatHears ∈ ALLW := wAll (wT5 60 rfl) rfl
set_option maxRecDepth 8000 in
theorem wY_X7_setThatHears : Cond.code yX7_setThatHears cX7_setThatHears 7 (Option.some .int) ∈ ALLW := wAll (wT5 61 rfl) rfl
set_option maxRecDepth 8000 in
theorem wM_X7_84 : Cond.methodLink "CavershamShift$Room" 84 yX7_stationIn ∈ ALLW := wAll (wT5 62 rfl) rfl
set_option maxRecDepth 8000 in
theorem wM_X7_98 : Cond.methodLink "CavershamShift$Room" 98 yX7_qualityAt ∈ ALLW := wAll (wT5 63 rfl) rfl
set_option maxRecDepth 8000 in
theorem wIn_X7_qualityAt : Cond.instanceMethod yX7_qualityAt ∈ ALLW := wAll (wT5 64 rfl) rfl
set_option maxRecDepth 8000 in
theorem wSe_X7_X7_qualityAt : Cond.selects "CavershamShift$Room" yX7_qualityAt yX7_qualityAt ∈ ALLW := wAll (wT5 65 rfl) rfl
set_option maxRecDepth 8000 in
theorem wY_X7_qualityAt : Cond.code yX7_qualityAt cX7_qualityAt 5 (Option.some .int) ∈ ALLW := wAll (wT5 66 rfl) rfl
set_option maxRecDepth 8000 in
theorem wM_X7_80 : Cond.methodLink "CavershamShift$Room" 80 yX7_monitorAt ∈ ALLW := wAll (wT5 67 rfl) rfl
set_option maxRecDepth 8000 in
theorem wM_X7_87 : Cond.methodLink "CavershamShift$Room" 87 yX0_stationAt ∈ ALLW := wAll (wT5 68 rfl) rfl
set_option maxRecDepth 8000 in
theorem wM_X7_91 : Cond.methodLink "CavershamShift$Room" 91 yX7_qualityOf ∈ ALLW := wAll (wT5 69 rfl) rfl
set_option maxRecDepth 8000 in
theorem wM_X10_377 : Cond.methodLink "CavershamShift" 377 yX7_qualityAt ∈ ALLW := wAll (wT5 70 rfl) rfl
set_option maxRecDepth 8000 in
theorem wC_X10_202 : Cond.classLink "CavershamShift" 202 "CavershamShift$Report" ∈ ALLW := wAll (wT5 71 rfl) rfl
set_option maxRecDepth 8000 in
theorem wNew_X6 : Cond.instantiable "CavershamShift$Report" 13 ∈ ALLW := wAll (wT5 72 rfl) rfl
set_option maxRecDepth 8000 in
theorem wM_X10_259 : Cond.methodLink "CavershamShift" 259 yX7_monitorIn ∈ ALLW := wAll (wT5 73 rfl) rfl
set_option maxRecDepth 8000 in
theorem wM_X10_421 : Cond.methodLink "CavershamShift" 421 yX6_init ∈ ALLW := wAll (wT5 74 rfl) rfl
set_option maxRecDepth 8000 in
theorem wIn_X6_init : Cond.instanceMethod yX6_init ∈ ALLW := wAll (wT5 75 rfl) rfl
set_option maxRecDepth 8000 in
theorem wY_X6_init : Cond.code yX6_init cX6_init 5 (none) ∈ ALLW := wAll (wT5 76 rfl) rfl
set_option maxRecDepth 8000 in
theorem wM_X6_3 : Cond.methodLink "CavershamShift$Report" 3 objectInit ∈ ALLW := wAll (wT5 77 rfl) rfl
set_option maxRecDepth 8000 in
theorem wM_X6_35 : Cond.methodLink "CavershamShift$Report" 35 yX6_sortOf ∈ ALLW := wAll (wT5 78 rfl) rfl
set_option maxRecDepth 8000 in
theorem wSt_X6_sortOf : Cond.static yX6_sortOf ∈ ALLW := wAll (wT5 79 rfl) rfl
set_option maxRecDepth 8000 in
theorem wY_X6_sortOf : Cond.code yX6_sortOf cX6_sortOf 1 (Option.some .int) ∈ ALLW := wAll (wT5 80 rfl) rfl
set_option maxRecDepth 8000 in
theorem wM_X6_48 : Cond.methodLink "CavershamShift$Report" 48 yX6_lengthOf ∈ ALLW := wAll (wT5 81 rfl) rfl
set_option maxRecDepth 8000 in
theorem wSt_X6_lengthOf : Cond.static yX6_lengthOf ∈ ALLW := wAll (wT5 82 rfl) rfl
set_option maxRecDepth 8000 in
theorem wY_X6_lengthOf : Cond.code yX6_lengthOf cX6_lengthOf 2 (Option.some .int) ∈ ALLW := wAll (wT5 83 rfl) rfl
set_option maxRecDepth 8000 in
theorem wM_X6_68 : Cond.methodLink "CavershamShift$Report" 68 yJ9_min_7cf53 ∈ ALLW := wAll (wT5 84 rfl) rfl
set_option maxRecDepth 8000 in
theorem wMN_X6_61 : Cond.methodLinkNest "CavershamShift$Report" 61 yX10_isIn "CavershamShift" ∈ NSTW := wNst (wT5 85 rfl) rfl
set_option maxRecDepth 8000 in
theorem wF_X6_39 : Cond.fieldLink "CavershamShift$Report" 39 "CavershamShift$Report" "sort" "I" ∈ ALLW := wAll (wT5 86 rfl) rfl
set_option maxRecDepth 8000 in
theorem wF_X4_51 : Cond.fieldLink "CavershamShift$Newsroom" 51 "CavershamShift$Report" "sort" "I" ∈ ALLW := wAll (wT5 87 rfl) rfl
set_option maxRecDepth 8000 in
theorem wF_X10_340 : Cond.fieldLink "CavershamShift" 340 "CavershamShift$Report" "sort" "I" ∈ ALLW := wAll (wT5 88 rfl) rfl
set_option maxRecDepth 8000 in
theorem wF_X6_52 : Cond.fieldLink "CavershamShift$Report" 52 "CavershamShift$Report" "length" "I" ∈ ALLW := wAll (wT5 89 rfl) rfl
set_option maxRecDepth 8000 in
theorem wF_X4_96 : Cond.fieldLink "CavershamShift$Newsroom" 96 "CavershamShift$Report" "length" "I" ∈ ALLW := wAll (wT5 90 rfl) rfl
set_option maxRecDepth 8000 in
theorem wF_X10_485 : Cond.fieldLink "CavershamShift" 485 "CavershamShift$Report" "length" "I" ∈ ALLW := wAll (wT5 91 rfl) rfl
set_option maxRecDepth 8000 in
theorem wF_X6_45 : Cond.fieldLink "CavershamShift$Report" 45 "CavershamShift$Report" "caught" "I" ∈ ALLW := wAll (wT5 92 rfl) rfl
set_option maxRecDepth 8000 in
theorem wF_X10_488 : Cond.fieldLink "CavershamShift" 488 "CavershamShift$Report" "caught" "I" ∈ ALLW := wAll (wT5 93 rfl) rfl
set_option maxRecDepth 8000 in
theorem wF_X6_58 : Cond.fieldLink "CavershamShift$Report" 58 "CavershamShift$Report" "heard" "I" ∈ ALLW := wAll (wT5 94 rfl) rfl
set_option maxRecDepth 8000 in
theorem wF_X4_157 : Cond.fieldLink "CavershamShift$Newsroom" 157 "CavershamShift$Report" "heard" "I" ∈ ALLW := wAll (wT5 95 rfl) rfl
set_option maxRecDepth 8000 in
theorem wF_X10_491 : Cond.fieldLink "CavershamShift" 491 "CavershamShift$Report" "heard" "I" ∈ ALLW := wAll (wT5 96 rfl) rfl
set_option maxRecDepth 8000 in
theorem wF_X6_65 : Cond.fieldLink "CavershamShift$Report" 65 "CavershamShift$Report" "guessed" "I" ∈ ALLW := wAll (wT5 97 rfl) rfl
set_option maxRecDepth 8000 in
theorem wF_X9_50 : Cond.fieldLink "CavershamShift$Talk" 50 "CavershamShift$Report" "guessed" "I" ∈ ALLW := wAll (wT5 98 rfl) rfl
set_option maxRecDepth 8000 in
theorem wF_X10_494 : Cond.fieldLink "CavershamShift" 494 "CavershamShift$Report" "guessed" "I" ∈ ALLW := wAll (wT5 99 rfl) rfl
set_option maxRecDepth 8000 in
theorem wF_X6_21 : Cond.fieldLink "CavershamShift$Report" 21 "CavershamShift$Report" "set" "I" ∈ ALLW := wAll (wT5 100 rfl) rfl
set_option maxRecDepth 8000 in
theorem wF_X10_500 : Cond.fieldLink "CavershamShift" 500 "CavershamShift$Report" "set" "I" ∈ ALLW := wAll (wT5 101 rfl) rfl
set_option maxRecDepth 8000 in
theorem wF_X6_24 : Cond.fieldLink "CavershamShift$Report" 24 "CavershamShift$Report" "monitor" "I" ∈ ALLW := wAll (wT5 102 rfl) rfl
set_option maxRecDepth 8000 in
theorem wF_X4_142 : Cond.fieldLink "CavershamShift$Newsroom" 142 "CavershamShift$Report" "monitor" "I" ∈ ALLW := wAll (wT5 103 rfl) rfl
set_option maxRecDepth 8000 in
theorem wF_X10_503 : Cond.fieldLink "CavershamShift" 503 "CavershamShift$Report" "monitor" "I" ∈ ALLW := wAll (wT5 104 rfl) rfl
set_option maxRecDepth 8000 in
theorem wF_X6_27 : Cond.fieldLink "CavershamShift$Report" 27 "CavershamShift$Report" "quality" "I" ∈ ALLW := wAll (wT5 105 rfl) rfl
set_option maxRecDepth 8000 in
theorem wF_X4_172 : Cond.fieldLink "CavershamShift$Newsroom" 172 "CavershamShift$Report" "quality" "I" ∈ ALLW := wAll (wT5 106 rfl) rfl
set_option maxRecDepth 8000 in
theorem wF_X10_506 : Cond.fieldLink "CavershamShift" 506 "CavershamShift$Report" "quality" "I" ∈ ALLW := wAll (wT5 107 rfl) rfl
set_option maxRecDepth 8000 in
theorem wF_X9_45 : Cond.fieldLink "CavershamShift$Talk" 45 "CavershamShift$Report" "state" "I" ∈ ALLW := wAll (wT5 108 rfl) rfl
set_option maxRecDepth 8000 in
theorem wF_X4_56 : Cond.fieldLink "CavershamShift$Newsroom" 56 "CavershamShift$Report" "state" "I" ∈ ALLW := wAll (wT5 109 rfl) rfl
set_option maxRecDepth 8000 in
theorem wF_X10_347 : Cond.fieldLink "CavershamShift" 347 "CavershamShift$Report" "state" "I" ∈ ALLW := wAll (wT5 110 rfl) rfl
set_option maxRecDepth 8000 in
theorem wF_X6_9 : Cond.fieldLink "CavershamShift$Report" 9 "CavershamShift$Report" "sentHour" "I" ∈ ALLW := wAll (wT5 111 rfl) rfl
set_option maxRecDepth 8000 in
theorem wF_X4_103 : Cond.fieldLink "CavershamShift$Newsroom" 103 "CavershamShift$Report" "sentHour" "I" ∈ ALLW := wAll (wT5 112 rfl) rfl
set_option maxRecDepth 8000 in
theorem wF_X10_497 : Cond.fieldLink "CavershamShift" 497 "CavershamShift$Report" "sentHour" "I" ∈ ALLW := wAll (wT5 113 rfl) rfl
set_option maxRecDepth 8000 in
theorem wF_X6_15 : Cond.fieldLink "CavershamShift$Report" 15 "CavershamShift$Report" "sentTurn" "I" ∈ ALLW := wAll (wT5 114 rfl) rfl
set_option maxRecDepth 8000 in
theorem wF_X4_109 : Cond.fieldLink "CavershamShift$Newsroom" 109 "CavershamShift$Report" "sentTurn" "I" ∈ ALLW := wAll (wT5 115 rfl) rfl
set_option maxRecDepth 8000 in
theorem wF_X6_18 : Cond.fieldLink "CavershamShift$Report" 18 "CavershamShift$Report" "correction" "I" ∈ ALLW := wAll (wT5 116 rfl) rfl
set_option maxRecDepth 8000 in
theorem wF_X9_77 : Cond.fieldLink "CavershamShift$Talk" 77 "CavershamShift$Report" "correction" "I" ∈ ALLW := wAll (wT5 117 rfl) rfl
set_option maxRecDepth 8000 in
theorem wF_X4_131 : Cond.fieldLink "CavershamShift$Newsroom" 131 "CavershamShift$Report" "correction" "I" ∈ ALLW := wAll (wT5 118 rfl) rfl
set_option maxRecDepth 8000 in
theorem wF_X10_512 : Cond.fieldLink "CavershamShift" 512 "CavershamShift$Report" "correction" "I" ∈ ALLW := wAll (wT5 119 rfl) rfl
set_option maxRecDepth 8000 in
theorem wF_X9_73 : Cond.fieldLink "CavershamShift$Talk" 73 "CavershamShift$Report" "readers" "I" ∈ ALLW := wAll (wT5 120 rfl) rfl
set_option maxRecDepth 8000 in
theorem wF_X4_116 : Cond.fieldLink "CavershamShift$Newsroom" 116 "CavershamShift$Report" "readers" "I" ∈ ALLW := wAll (wT5 121 rfl) rfl
set_option maxRecDepth 8000 in
theorem wM_X10_424 : Cond.methodLink "CavershamShift" 424 yX4_file ∈ ALLW := wAll (wT5 149 rfl) rfl
set_option maxRecDepth 8000 in
theorem wIn_X4_file : Cond.instanceMethod yX4_file ∈ ALLW := wAll (wT5 150 rfl) rfl
set_option maxRecDepth 8000 in
theorem wSe_X4_X4_file : Cond.selects "CavershamShift$Newsroom" yX4_file yX4_file ∈ ALLW := wAll (wT5 151 rfl) rfl
set_option maxRecDepth 8000 in
theorem wY_X4_file : Cond.code yX4_file cX4_file 4 (none) ∈ ALLW := wAll (wT5 152 rfl) rfl
set_option maxRecDepth 8000 in
theorem wM_X10_428 : Cond.methodLink "CavershamShift" 428 yX7_tire ∈ ALLW := wAll (wT5 153 rfl) rfl
set_option maxRecDepth 8000 in
theorem wIn_X7_tire : Cond.instanceMethod yX7_tire ∈ ALLW := wAll (wT5 154 rfl) rfl
set_option maxRecDepth 8000 in
theorem wSe_X7_X7_tire : Cond.selects "CavershamShift$Room" yX7_tire yX7_tire ∈ ALLW := wAll (wT5 155 rfl) rfl
set_option maxRecDepth 8000 in
theorem wY_X7_tire : Cond.code yX7_tire cX7_tire 5 (none) ∈ ALLW := wAll (wT5 156 rfl) rfl
set_option maxRecDepth 8000 in
theorem wM_X7_102 : Cond.methodLink "CavershamShift$Room" 102 yX7_setOf ∈ ALLW := wAll (wT5 157 rfl) rfl
set_option maxRecDepth 8000 in
theorem wM_X10_431 : Cond.methodLink "CavershamShift" 431 yX4_dropStale ∈ ALLW := wAll (wT5 158 rfl) rfl
set_option maxRecDepth 8000 in
theorem wIn_X4_dropStale : Cond.instanceMethod yX4_dropStale ∈ ALLW := wAll (wT5 159 rfl) rfl
set_option maxRecDepth 8000 in
theorem wSe_X4_X4_dropStale : Cond.selects "CavershamShift$Newsroom" yX4_dropStale yX4_dropStale ∈ ALLW := wAll (wT5 160 rfl) rfl
set_option maxRecDepth 8000 in
theorem wY_X4_dropStale : Cond.code yX4_dropStale cX4_dropStale 5 (none) ∈ ALLW := wAll (wT5 161 rfl) rfl
set_option maxRecDepth 8000 in
theorem wM_X10_434 : Cond.methodLink "CavershamShift" 434 yX4_runWire ∈ ALLW := wAll (wT5 162 rfl) rfl
set_option maxRecDepth 8000 in
theorem wIn_X4_runWire : Cond.instanceMethod yX4_runWire ∈ ALLW := wAll (wT5 163 rfl) rfl
set_option maxRecDepth 8000 in
theorem wSe_X4_X4_runWire : Cond.selects "CavershamShift$Newsroom" yX4_runWire yX4_runWire ∈ ALLW := wAll (wT5 164 rfl) rfl
set_option maxRecDepth 8000 in
theorem wY_X4_runWire : Cond.code yX4_runWire cX4_runWire 2 (none) ∈ ALLW := wAll (wT5 165 rfl) rfl
set_option maxRecDepth 8000 in
theorem wM_X4_79 : Cond.methodLink "CavershamShift$Newsroom" 79 yX4_sendCorrections ∈ ALLW := wAll (wT5 166 rfl) rfl
set_option maxRecDepth 8000 in
theorem wIn_X4_sendCorrections : Cond.instanceMethod yX4_sendCorrections ∈ ALLW := wAll (wT5 168 rfl) rfl
set_option maxRecDepth 8000 in
theorem wY_X4_sendCorrections : Cond.code yX4_sendCorrections cX4_sendCorrections 4 (none) ∈ ALLW := wAll (wT5 169 rfl) rfl
set_option maxRecDepth 8000 in
theorem wM_L_180 : Cond.methodLink "CavershamShiftLaw" 180 yL_ofStation ∈ ALLW := wAll (wT5 170 rfl) rfl
set_option maxRecDepth 8000 in
theorem wSt_L_ofStation : Cond.static yL_ofStation ∈ ALLW := wAll (wT5 171 rfl) rfl
set_option maxRecDepth 8000 in
theorem wYW_L_ofStation : Cond.codeWith yL_ofStation cL_ofStation 5 (Option.some .int) [(0, 11, 14, 27), (0, 11, 18, 19)] ∈ ALLW := wAll (wT5 172 rfl) rfl
set_option maxRecDepth 8000 in
theorem wM_L_62 : Cond.methodLink "CavershamShiftLaw" 62 yX10_ofStation ∈ ALLW := wAll (wT5 173 rfl) rfl
set_option maxRecDepth 8000 in
theorem wIn_X10_ofStation : Cond.instanceMethod yX10_ofStation ∈ ALLW := wAll (wT5 174 rfl) rfl
set_option maxRecDepth 8000 in
theorem wSe_X10_X10_ofStation : Cond.selects "CavershamShift" yX10_ofStation yX10_ofStation ∈ ALLW := wAll (wT5 175 rfl) rfl
set_option maxRecDepth 8000 in
theorem wY_X10_ofStation : Cond.code yX10_ofStation cX10_ofStation 4 (Option.some .int) ∈ ALLW := wAll (wT5 176 rfl) rfl
set_option maxRecDepth 8000 in
theorem wM_L_183 : Cond.methodLink "CavershamShiftLaw" 183 yL_comes ∈ ALLW := wAll (wT5 178 rfl) rfl
set_option maxRecDepth 8000 in
theorem wSt_L_comes : Cond.static yL_comes ∈ ALLW := wAll (wT5 179 rfl) rfl
set_option maxRecDepth 8000 in
theorem wYW_L_comes : Cond.codeWith yL_comes cL_comes 5 (Option.some .int) [(0, 11, 14, 27)] ∈ ALLW := wAll (wT5 180 rfl) rfl
set_option maxRecDepth 8000 in
theorem wM_L_65 : Cond.methodLink "CavershamShiftLaw" 65 yX10_comes ∈ ALLW := wAll (wT5 181 rfl) rfl
set_option maxRecDepth 8000 in
theorem wIn_X10_comes : Cond.instanceMethod yX10_comes ∈ ALLW := wAll (wT5 182 rfl) rfl
set_option maxRecDepth 8000 in
theorem wSe_X10_X10_comes : Cond.selects "CavershamShift" yX10_comes yX10_comes ∈ ALLW := wAll (wT5 183 rfl) rfl
set_option maxRecDepth 8000 in
theorem wY_X10_comes : Cond.code yX10_comes cX10_comes 4 (Option.some .int) ∈ ALLW := wAll (wT5 184 rfl) rfl
set_option maxRecDepth 8000 in
theorem wM_L_186 : Cond.methodLink "CavershamShiftLaw" 186 yL_ofMonitor ∈ ALLW := wAll (wT5 186 rfl) rfl
set_option maxRecDepth 8000 in
theorem wSt_L_ofMonitor : Cond.static yL_ofMonitor ∈ ALLW := wAll (wT5 187 rfl) rfl
set_option maxRecDepth 8000 in
theorem wYW_L_ofMonitor : Cond.codeWith yL_ofMonitor cL_ofMonitor 5 (Option.some .int) [(0, 11, 14, 27), (0, 11, 18, 19)] ∈ ALLW := wAll (wT5 188 rfl) rfl
set_option maxRecDepth 8000 in
theorem wM_L_68 : Cond.methodLink "CavershamShiftLaw" 68 yX10_ofMonitor ∈ ALLW := wAll (wT5 189 rfl) rfl
set_option maxRecDepth 8000 in
theorem wIn_X10_ofMonitor : Cond.instanceMethod yX10_ofMonitor ∈ ALLW := wAll (wT5 190 rfl) rfl
set_option maxRecDepth 8000 in
theorem wSe_X10_X10_ofMonitor : Cond.selects "CavershamShift" yX10_ofMonitor yX10_ofMonitor ∈ ALLW := wAll (wT5 191 rfl) rfl
set_option maxRecDepth 8000 in
theorem wY_X10_ofMonitor : Cond.code yX10_ofMonitor cX10_ofMonitor 4 (Option.some .int) ∈ ALLW := wAll (wT5 192 rfl) rfl
set_option maxRecDepth 8000 in
theorem wM_L_189 : Cond.methodLink "CavershamShiftLaw" 189 yL_sits ∈ ALLW := wAll (wT5 193 rfl) rfl
set_option maxRecDepth 8000 in
theorem wSt_L_sits : Cond.static yL_sits ∈ ALLW := wAll (wT5 194 rfl) rfl
set_option maxRecDepth 8000 in
theorem wYW_L_sits : Cond.codeWith yL_sits cL_sits 6 (Option.some .int) [(0, 13, 16, 27)] ∈ ALLW := wAll (wT5 195 rfl) rfl
set_option maxRecDepth 8000 in
theorem wM_L_71 : Cond.methodLink "CavershamShiftLaw" 71 yX10_sits ∈ ALLW := wAll (wT5 196 rfl) rfl
set_option maxRecDepth 8000 in
theorem wIn_X10_sits : Cond.instanceMethod yX10_sits ∈ ALLW := wAll (wT5 197 rfl) rfl
set_option maxRecDepth 8000 in
theorem wSe_X10_X10_sits : Cond.selects "CavershamShift" yX10_sits yX10_sits ∈ ALLW := wAll (wT5 198 rfl) rfl
set_option maxRecDepth 8000 in
theorem wY_X10_sits : Cond.code yX10_sits cX10_sits 4 (Option.some .int) ∈ ALLW := wAll (wT5 199 rfl) rfl
set_option maxRecDepth 8000 in
theorem wM_L_193 : Cond.methodLink "CavershamShiftLaw" 193 yL_quality ∈ ALLW := wAll (wT5 200 rfl) rfl
set_option maxRecDepth 8000 in
theorem wSt_L_quality : Cond.static yL_quality ∈ ALLW := wAll (wT5 201 rfl) rfl
set_option maxRecDepth 8000 in
theorem wYW_L_quality : Cond.codeWith yL_quality cL_quality 6 (Option.some .int) [(0, 13, 16, 27)] ∈ ALLW := wAll (wT5 202 rfl) rfl
set_option maxRecDepth 8000 in
theorem wM_L_75 : Cond.methodLink "CavershamShiftLaw" 75 yX10_quality ∈ ALLW := wAll (wT5 203 rfl) rfl
set_option maxRecDepth 8000 in
theorem wIn_X10_quality : Cond.instanceMethod yX10_quality ∈ ALLW := wAll (wT5 204 rfl) rfl
set_option maxRecDepth 8000 in
theorem wSe_X10_X10_quality : Cond.selects "CavershamShift" yX10_quality yX10_quality ∈ ALLW := wAll (wT5 205 rfl) rfl
set_option maxRecDepth 8000 in
theorem wY_X10_quality : Cond.code yX10_quality cX10_quality 6 (Option.some .int) ∈ ALLW := wAll (wT5 206 rfl) rfl
set_option maxRecDepth 8000 in
theorem wM_X10_264 : Cond.methodLink "CavershamShift" 264 yX7_qualityOf ∈ ALLW := wAll (wT5 208 rfl) rfl
set_option maxRecDepth 8000 in
theorem wM_L_196 : Cond.methodLink "CavershamShiftLaw" 196 yL_ofTalk ∈ ALLW := wAll (wT5 209 rfl) rfl
set_option maxRecDepth 8000 in
theorem wSt_L_ofTalk : Cond.static yL_ofTalk ∈ ALLW := wAll (wT5 210 rfl) rfl
set_option maxRecDepth 8000 in
theorem wYW_L_ofTalk : Cond.codeWith yL_ofTalk cL_ofTalk 5 (Option.some .int) [(0, 11, 14, 27), (0, 11, 18, 19)] ∈ ALLW := wAll (wT5 211 rfl) rfl
set_option maxRecDepth 8000 in
theorem wM_L_78 : Cond.methodLink "CavershamShiftLaw" 78 yX10_ofTalk ∈ ALLW := wAll (wT5 212 rfl) rfl
set_option maxRecDepth 8000 in
theorem wIn_X10_ofTalk : Cond.instanceMethod yX10_ofTalk ∈ ALLW := wAll (wT5 213 rfl) rfl
set_option maxRecDepth 8000 in
theorem wSe_X10_X10_ofTalk : Cond.selects "CavershamShift" yX10_ofTalk yX10_ofTalk ∈ ALLW := wAll (wT5 214 rfl) rfl
set_option maxRecDepth 8000 in
theorem wY_X10_ofTalk : Cond.code yX10_ofTalk cX10_ofTalk 4 (Option.some .int) ∈ ALLW := wAll (wT5 215 rfl) rfl
set_option maxRecDepth 8000 in
theorem wM_L_199 : Cond.methodLink "CavershamShiftLaw" 199 yL_ofReport ∈ ALLW := wAll (wT5 216 rfl) rfl
set_option maxRecDepth 8000 in
theorem wSt_L_ofReport : Cond.static yL_ofReport ∈ ALLW := wAll (wT5 217 rfl) rfl
set_option maxRecDepth 8000 in
theorem wYW_L_ofReport : Cond.codeWith yL_ofReport cL_ofReport 5 (Option.some .int) [(0, 11, 14, 27), (0, 11, 18, 19)] ∈ ALLW := wAll (wT5 218 rfl) rfl
set_option maxRecDepth 8000 in
theorem wM_L_81 : Cond.methodLink "CavershamShiftLaw" 81 yX10_ofReport ∈ ALLW := wAll (wT5 219 rfl) rfl
set_option maxRecDepth 8000 in
theorem wIn_X10_ofReport : Cond.instanceMethod yX10_ofReport ∈ ALLW := wAll (wT5 220 rfl) rfl
set_option maxRecDepth 8000 in
theorem wSe_X10_X10_ofReport : Cond.selects "CavershamShift" yX10_ofReport yX10_ofReport ∈ ALLW := wAll (wT5 221 rfl) rfl
set_option maxRecDepth 8000 in
theorem wY_X10_ofReport : Cond.code yX10_ofReport cX10_ofReport 4 (Option.some .int) ∈ ALLW := wAll (wT5 222 rfl) rfl
set_option maxRecDepth 8000 in
theorem wM_L_202 : Cond.methodLink "CavershamShiftLaw" 202 yL_got ∈ ALLW := wAll (wT5 223 rfl) rfl
set_option maxRecDepth 8000 in
theorem wSt_L_got : Cond.static yL_got ∈ ALLW := wAll (wT5 224 rfl) rfl
set_option maxRecDepth 8000 in
theorem wYW_L_got : Cond.codeWith yL_got cL_got 5 (Option.some .int) [(0, 11, 14, 27)] ∈ ALLW := wAll (wT5 225 rfl) rfl
set_option maxRecDepth 8000 in
theorem wM_L_84 : Cond.methodLink "CavershamShiftLaw" 84 yX10_got ∈ ALLW := wAll (wT5 226 rfl) rfl
set_option maxRecDepth 8000 in
theorem wIn_X10_got : Cond.instanceMethod yX10_got ∈ ALLW := wAll (wT5 227 rfl) rfl
set_option maxRecDepth 8000 in
theorem wSe_X10_X10_got : Cond.selects "CavershamShift" yX10_got yX10_got ∈ ALLW := wAll (wT5 228 rfl) rfl
set_option maxRecDepth 8000 in
theorem wY_X10_got : Cond.code yX10_got cX10_got 5 (Option.some .int) ∈ ALLW := wAll (wT5 229 rfl) rfl
set_option maxRecDepth 8000 in
theorem wM_L_205 : Cond.methodLink "CavershamShiftLaw" 205 yL_ofReader ∈ ALLW := wAll (wT5 231 rfl) rfl
set_option maxRecDepth 8000 in
theorem wSt_L_ofReader : Cond.static yL_ofReader ∈ ALLW := wAll (wT5 232 rfl) rfl
set_option maxRecDepth 8000 in
theorem wYW_L_ofReader : Cond.codeWith yL_ofReader cL_ofReader 5 (Option.some .int) [(0, 11, 14, 27), (0, 11, 18, 19)] ∈ ALLW := wAll (wT5 233 rfl) rfl
set_option maxRecDepth 8000 in
theorem wM_L_87 : Cond.methodLink "CavershamShiftLaw" 87 yX10_ofReader ∈ ALLW := wAll (wT5 234 rfl) rfl
set_option maxRecDepth 8000 in
theorem wIn_X10_ofReader : Cond.instanceMethod yX10_ofReader ∈ ALLW := wAll (wT5 235 rfl) rfl
set_option maxRecDepth 8000 in
theorem wSe_X10_X10_ofReader : Cond.selects "CavershamShift" yX10_ofReader yX10_ofReader ∈ ALLW := wAll (wT5 236 rfl) rfl
set_option maxRecDepth 8000 in
theorem wY_X10_ofReader : Cond.code yX10_ofReader cX10_ofReader 4 (Option.some .int) ∈ ALLW := wAll (wT5 237 rfl) rfl
set_option maxRecDepth 8000 in
theorem wM_L_208 : Cond.methodLink "CavershamShiftLaw" 208 yL_used ∈ ALLW := wAll (wT5 238 rfl) rfl
set_option maxRecDepth 8000 in
theorem wSt_L_used : Cond.static yL_used ∈ ALLW := wAll (wT5 239 rfl) rfl
set_option maxRecDepth 8000 in
theorem wYW_L_used : Cond.codeWith yL_used cL_used 7 (Option.some .int) [(0, 15, 18, 27)] ∈ ALLW := wAll (wT6 0 rfl) rfl
set_option maxRecDepth 8000 in
theorem wM_L_90 : Cond.methodLink "CavershamShiftLaw" 90 yX10_used ∈ ALLW := wAll (wT6 1 rfl) rfl
set_option maxRecDepth 8000 in
theorem wIn_X10_used : Cond.instanceMethod yX10_used ∈ ALLW := wAll (wT6 2 rfl) rfl
set_option maxRecDepth 8000 in
theorem wSe_X10_X10_used : Cond.selects "CavershamShift" yX10_used yX10_used ∈ ALLW := wAll (wT6 3 rfl) rfl
set_option maxRecDepth 8000 in
theorem wY_X10_used : Cond.code yX10_used cX10_used 5 (Option.some .int) ∈ ALLW := wAll (wT6 4 rfl) rfl
set_option maxRecDepth 8000 in
theorem wM_X10_286 : Cond.methodLink "CavershamShift" 286 yX4_countUsed ∈ ALLW := wAll (wT6 6 rfl) rfl
set_option maxRecDepth 8000 in
theorem wM_L_211 : Cond.methodLink "CavershamShiftLaw" 211 yL_gone ∈ ALLW := wAll (wT6 7 rfl) rfl
set_option maxRecDepth 8000 in
theorem wSt_L_gone : Cond.static yL_gone ∈ ALLW := wAll (wT6 8 rfl) rfl
set_option maxRecDepth 8000 in
theorem wYW_L_gone : Cond.codeWith yL_gone cL_gone 4 (Option.some .int) [(0, 10, 13, 27)] ∈ ALLW := wAll (wT6 9 rfl) rfl
set_option maxRecDepth 8000 in
theorem wM_L_93 : Cond.methodLink "CavershamShiftLaw" 93 yX10_gone ∈ ALLW := wAll (wT6 10 rfl) rfl
set_option maxRecDepth 8000 in
theorem wIn_X10_gone : Cond.instanceMethod yX10_gone ∈ ALLW := wAll (wT6 11 rfl) rfl
set_option maxRecDepth 8000 in
theorem wSe_X10_X10_gone : Cond.selects "CavershamShift" yX10_gone yX10_gone ∈ ALLW := wAll (wT6 12 rfl) rfl
set_option maxRecDepth 8000 in
theorem wY_X10_gone : Cond.code yX10_gone cX10_gone 2 (Option.some .int) ∈ ALLW := wAll (wT6 13 rfl) rfl
set_option maxRecDepth 8000 in
theorem wM_L_214 : Cond.methodLink "CavershamShiftLaw" 214 yL_first ∈ ALLW := wAll (wT6 15 rfl) rfl
set_option maxRecDepth 8000 in
theorem wSt_L_first : Cond.static yL_first ∈ ALLW := wAll (wT6 16 rfl) rfl
set_option maxRecDepth 8000 in
theorem wYW_L_first : Cond.codeWith yL_first cL_first 4 (Option.some .int) [(0, 10, 13, 27)] ∈ ALLW := wAll (wT6 17 rfl) rfl
set_option maxRecDepth 8000 in
theorem wM_L_96 : Cond.methodLink "CavershamShiftLaw" 96 yX10_first ∈ ALLW := wAll (wT6 18 rfl) rfl
set_option maxRecDepth 8000 in
theorem wIn_X10_first : Cond.instanceMethod yX10_first ∈ ALLW := wAll (wT6 19 rfl) rfl
set_option maxRecDepth 8000 in
theorem wSe_X10_X10_first : Cond.selects "CavershamShift" yX10_first yX10_first ∈ ALLW := wAll (wT6 20 rfl) rfl
set_option maxRecDepth 8000 in
theorem wY_X10_first : Cond.code yX10_first cX10_first 2 (Option.some .int) ∈ ALLW := wAll (wT6 21 rfl) rfl
set_option maxRecDepth 8000 in
theorem wM_L_217 : Cond.methodLink "CavershamShiftLaw" 217 yL_clarity ∈ ALLW := wAll (wT6 23 rfl) rfl
set_option maxRecDepth 8000 in
theorem wSt_L_clarity : Cond.static yL_clarity ∈ ALLW := wAll (wT6 24 rfl) rfl
set_option maxRecDepth 8000 in
theorem wYW_L_clarity : Cond.codeWith yL_clarity cL_clarity 4 (Option.some .int) [(0, 9, 12, 27)] ∈ ALLW := wAll (wT6 25 rfl) rfl
set_option maxRecDepth 8000 in
theorem wM_L_99 : Cond.methodLink "CavershamShiftLaw" 99 yX10_clarity ∈ ALLW := wAll (wT6 26 rfl) rfl
set_option maxRecDepth 8000 in
theorem wIn_X10_clarity : Cond.instanceMethod yX10_clarity ∈ ALLW := wAll (wT6 27 rfl) rfl
set_option maxRecDepth 8000 in
theorem wSe_X10_X10_clarity : Cond.selects "CavershamShift" yX10_clarity yX10_clarity ∈ ALLW := wAll (wT6 28 rfl) rfl
set_option maxRecDepth 8000 in
theorem wY_X10_clarity : Cond.code yX10_clarity cX10_clarity 2 (Option.some .double) ∈ ALLW := wAll (wT6 29 rfl) rfl
set_option maxRecDepth 8000 in
theorem wM_L_220 : Cond.methodLink "CavershamShiftLaw" 220 yL_desk ∈ ALLW := wAll (wT6 30 rfl) rfl
set_option maxRecDepth 8000 in
theorem wSt_L_desk : Cond.static yL_desk ∈ ALLW := wAll (wT6 31 rfl) rfl
set_option maxRecDepth 8000 in
theorem wYW_L_desk : Cond.codeWith yL_desk cL_desk 4 (Option.some .int) [(0, 10, 13, 19)] ∈ ALLW := wAll (wT6 32 rfl) rfl
set_option maxRecDepth 8000 in
theorem wM_L_107 : Cond.methodLink "CavershamShiftLaw" 107 yX10_desk ∈ ALLW := wAll (wT6 33 rfl) rfl
set_option maxRecDepth 8000 in
theorem wIn_X10_desk : Cond.instanceMethod yX10_desk ∈ ALLW := wAll (wT6 34 rfl) rfl
set_option maxRecDepth 8000 in
theorem wSe_X10_X10_desk : Cond.selects "CavershamShift" yX10_desk yX10_desk ∈ ALLW := wAll (wT6 35 rfl) rfl
set_option maxRecDepth 8000 in
theorem wY_X10_desk : Cond.code yX10_desk cX10_desk 2 (Option.some .int) ∈ ALLW := wAll (wT6 36 rfl) rfl
set_option maxRecDepth 8000 in
theorem wM_L_223 : Cond.methodLink "CavershamShiftLaw" 223 yL_tell ∈ ALLW := wAll (wT6 37 rfl) rfl
set_option maxRecDepth 8000 in
theorem wSt_L_tell : Cond.static yL_tell ∈ ALLW := wAll (wT6 38 rfl) rfl
set_option maxRecDepth 8000 in
theorem wYW_L_tell : Cond.codeWith yL_tell cL_tell 4 (Option.some .int) [(0, 9, 12, 27)] ∈ ALLW := wAll (wT6 39 rfl) rfl
set_option maxRecDepth 8000 in
theorem wM_L_110 : Cond.methodLink "CavershamShiftLaw" 110 yX10_tell ∈ ALLW := wAll (wT6 40 rfl) rfl
set_option maxRecDepth 8000 in
theorem wIn_X10_tell : Cond.instanceMethod yX10_tell ∈ ALLW := wAll (wT6 41 rfl) rfl
set_option maxRecDepth 8000 in
theorem wSe_X10_X10_tell : Cond.selects "CavershamShift" yX10_tell yX10_tell ∈ ALLW := wAll (wT6 42 rfl) rfl
set_option maxRecDepth 8000 in
theorem wY_X10_tell : Cond.code yX10_tell cX10_tell 5 (Option.some (.object "java/lang/String")) ∈ ALLW := wAll (wT6 43 rfl) rfl
set_option maxRecDepth 8000 in
theorem wC_X10_311 : Cond.classLink "CavershamShift" 311 "java/lang/StringBuilder" ∈ ALLW := wAll (wT6 44 rfl) rfl
set_option maxRecDepth 8000 in
theorem wNew_J4 : Cond.instantiable "java/lang/StringBuilder" 4 ∈ ALLW := wAll (wT6 45 rfl) rfl
set_option maxRecDepth 8000 in
theorem wM_X10_313 : Cond.methodLink "CavershamShift" 313 yJ4_init_da8c8 ∈ ALLW := wAll (wT6 46 rfl) rfl
set_option maxRecDepth 8000 in
theorem wIn_J4_init_da8c8 : Cond.instanceMethod yJ4_init_da8c8 ∈ ALLW := wAll (wT6 47 rfl) rfl
set_option maxRecDepth 8000 in
theorem wY_J4_init_da8c8 : Cond.code yJ4_init_da8c8 cJ4_init_da8c8 1 (none) ∈ ALLW := wAll (wT6 48 rfl) rfl
set_option maxRecDepth 8000 in
theorem wM_J4_1 : Cond.methodLink "java/lang/StringBuilder" 1 yJ5_init_d00df ∈ ALLW := wAll (wT6 49 rfl) rfl
set_option maxRecDepth 8000 in
theorem wIn_J5_init_d00df : Cond.instanceMethod yJ5_init_d00df ∈ ALLW := wAll (wT6 50 rfl) rfl
set_option maxRecDepth 8000 in
theorem wY_J5_init_d00df : Cond.code yJ5_init_d00df cJ5_init_d00df 2 (none) ∈ ALLW := wAll (wT6 51 rfl) rfl
set_option maxRecDepth 8000 in
theorem wM_J5_3 : Cond.methodLink "java/lang/AbstractStringBuilder" 3 objectInit ∈ ALLW := wAll (wT6 52 rfl) rfl
set_option maxRecDepth 8000 in
theorem wF_J5_18 : Cond.fieldLink "java/lang/AbstractStringBuilder" 18 "java/lang/String" "COMPACT_STRINGS" "Z" ∈ ALLW := wAll (wT6 53 rfl) rfl
set_option maxRecDepth 8000 in
theorem wLS_J0_COMPACT_STRINGS : Cond.laysStatic "java/lang/String" "COMPACT_STRINGS" "Z" ∈ lw_tbl := wT6 54 rfl
set_option maxRecDepth 8000 in
theorem wF_J5_15 : Cond.fieldLink "java/lang/AbstractStringBuilder" 15 "java/lang/AbstractStringBuilder" "value" "[B" ∈ ALLW := wAll (wT6 62 rfl) rfl
set_option maxRecDepth 8000 in
theorem wF_J5_22 : Cond.fieldLink "java/lang/AbstractStringBuilder" 22 "java/lang/AbstractStringBuilder" "coder" "B" ∈ ALLW := wAll (wT6 63 rfl) rfl
set_option maxRecDepth 8000 in
theorem wF_J5_79 : Cond.fieldLink "java/lang/AbstractStringBuilder" 79 "java/lang/AbstractStringBuilder" "count" "I" ∈ ALLW := wAll (wT6 65 rfl) rfl
set_option maxRecDepth 8000 in
theorem wZ_1274 : Cond.superclass "java/lang/StringBuilder" "java/lang/AbstractStringBuilder" ∈ ALLW := wAll (wT6 74 rfl) rfl
set_option maxRecDepth 8000 in
theorem wM_X10_317 : Cond.methodLink "CavershamShift" 317 yJ4_append_bf812 ∈ ALLW := wAll (wT6 75 rfl) rfl
set_option maxRecDepth 8000 in
theorem wIn_J4_append_bf812 : Cond.instanceMethod yJ4_append_bf812 ∈ ALLW := wAll (wT6 76 rfl) rfl
set_option maxRecDepth 8000 in
theorem wSe_J4_J4_append_bf812 : Cond.selects "java/lang/StringBuilder" yJ4_append_bf812 yJ4_append_bf812 ∈ ALLW := wAll (wT6 77 rfl) rfl
set_option maxRecDepth 8000 in
theorem wY_J4_append_bf812 : Cond.code yJ4_append_bf812 cJ4_append_bf812 2 (Option.some (.object "java/lang/StringBuilder")) ∈ ALLW := wAll (wT6 78 rfl) rfl
set_option maxRecDepth 8000 in
theorem wM_J4_53 : Cond.methodLink "java/lang/StringBuilder" 53 yJ5_append_c97b9 ∈ ALLW := wAll (wT6 79 rfl) rfl
set_option maxRecDepth 8000 in
theorem wIn_J5_append_c97b9 : Cond.instanceMethod yJ5_append_c97b9 ∈ ALLW := wAll (wT6 80 rfl) rfl
set_option maxRecDepth 8000 in
theorem wY_J5_append_c97b9 : Cond.code yJ5_append_c97b9 cJ5_append_c97b9 4 (Option.some (.object "java/lang/AbstractStringBuilder")) ∈ ALLW := wAll (wT6 81 rfl) rfl
set_option maxRecDepth 8000 in
theorem wM_J5_245 : Cond.methodLink "java/lang/AbstractStringBuilder" 245 yJ6_stringSize_0f7a4 ∈ ALLW := wAll (wT6 82 rfl) rfl
set_option maxRecDepth 8000 in
theorem wSt_J6_stringSize_0f7a4 : Cond.static yJ6_stringSize_0f7a4 ∈ ALLW := wAll (wT6 83 rfl) rfl
set_option maxRecDepth 8000 in
theorem wY_J6_stringSize_0f7a4 : Cond.code yJ6_stringSize_0f7a4 cJ6_stringSize_0f7a4 4 (Option.some .int) ∈ ALLW := wAll (wT6 84 rfl) rfl
set_option maxRecDepth 8000 in
theorem wM_J5_100 : Cond.methodLink "java/lang/AbstractStringBuilder" 100 yJ5_ensureCapacityInternal_d00df ∈ ALLW := wAll (wT6 85 rfl) rfl
set_option maxRecDepth 8000 in
theorem wIn_J5_ensureCapacityInternal_d00df : Cond.instanceMethod yJ5_ensureCapacityInternal_d00df ∈ ALLW := wAll (wT6 87 rfl) rfl
set_option maxRecDepth 8000 in
theorem wY_J5_ensureCapacityInternal_d00df : Cond.code yJ5_ensureCapacityInternal_d00df cJ5_ensureCapacityInternal_d00df 3 (none) ∈ ALLW := wAll (wT6 88 rfl) rfl
set_option maxRecDepth 8000 in
theorem wM_J5_104 : Cond.methodLink "java/lang/AbstractStringBuilder" 104 yJ5_newCapacity_0f7a4 ∈ ALLW := wAll (wT6 89 rfl) rfl
set_option maxRecDepth 8000 in
theorem wIn_J5_newCapacity_0f7a4 : Cond.instanceMethod yJ5_newCapacity_0f7a4 ∈ ALLW := wAll (wT6 91 rfl) rfl
set_option maxRecDepth 8000 in
theorem wY_J5_newCapacity_0f7a4 : Cond.code yJ5_newCapacity_0f7a4 cJ5_newCapacity_0f7a4 6 (Option.some .int) ∈ ALLW := wAll (wT6 92 rfl) rfl
set_option maxRecDepth 8000 in
theorem wM_J5_114 : Cond.methodLink "java/lang/AbstractStringBuilder" 114 yJ8_newLength_cabcc ∈ ALLW := wAll (wT6 93 rfl) rfl
set_option maxRecDepth 8000 in
theorem wK_J5_39 : Cond.constant "java/lang/AbstractStringBuilder" 39 (2147483647) ∈ ALLW := wAll (wT6 94 rfl) rfl
set_option maxRecDepth 8000 in
theorem wM_J5_108 : Cond.methodLink "java/lang/AbstractStringBuilder" 108 yJ7_copyOf_9075b ∈ ALLW := wAll (wT6 95 rfl) rfl
set_option maxRecDepth 8000 in
theorem wSt_J7_copyOf_9075b : Cond.static yJ7_copyOf_9075b ∈ ALLW := wAll (wT6 96 rfl) rfl
set_option maxRecDepth 8000 in
theorem wY_J7_copyOf_9075b : Cond.code yJ7_copyOf_9075b cJ7_copyOf_9075b 3 (Option.some (.array .byte)) ∈ ALLW := wAll (wT6 97 rfl) rfl
set_option maxRecDepth 8000 in
theorem wM_J7_310 : Cond.methodLink "java/util/Arrays" 310 ⟨"[B", "clone", "()Ljava/lang/Object;"⟩ ∈ ALLW := wAll (wT6 98 rfl) rfl
set_option maxRecDepth 8000 in
theorem wZ_1299 : Cond.sameMethod "[B" "java/lang/Object" "clone" "()Ljava/lang/Object;" ∈ ALLW := wAll (wT6 99 rfl) rfl
set_option maxRecDepth 8000 in
theorem wNat_java_lang_Object_clone___Ljava_lang_Object_ : Cond.native ⟨"java/lang/Object", "clone", "()Ljava/lang/Object;"⟩ ∈ lw_tbl := wT6 100 rfl
set_option maxRecDepth 8000 in
theorem wIn_java_lang_Object_clone___Ljava_lang_Object_ : Cond.instanceMethod ⟨"java/lang/Object", "clone", "()Ljava/lang/Object;"⟩ ∈ ALLW := wAll (wT6 101 rfl) rfl
set_option maxRecDepth 8000 in
theorem wSe__B_java_lang_Object_clone___Ljava_lang_Object__of__B_clone___Ljava_lang_Object_ : Cond.selects "[B" ⟨"[B", "clone", "()Ljava/lang/Object;"⟩ ⟨"java/lang/Object", "clone", "()Ljava/lang/Object;"⟩ ∈ ALLW := wAll (wT6 102 rfl) rfl
set_option maxRecDepth 8000 in
theorem wCa__B_Jx8e188 : Cond.castable "[B" "java/lang/Cloneable" ∈ NSTW := wNst (wT6 103 rfl) rfl
set_option maxRecDepth 8000 in
theorem wC_J7_311 : Cond.classLink "java/util/Arrays" 311 "[B" ∈ ALLW := wAll (wT6 104 rfl) rfl
set_option maxRecDepth 8000 in
theorem wM_J5_83 : Cond.methodLink "java/lang/AbstractStringBuilder" 83 yJ5_isLatin1_aae02 ∈ ALLW := wAll (wT6 105 rfl) rfl
set_option maxRecDepth 8000 in
theorem wIn_J5_isLatin1_aae02 : Cond.instanceMethod yJ5_isLatin1_aae02 ∈ ALLW := wAll (wT6 106 rfl) rfl
set_option maxRecDepth 8000 in
theorem wZ_1307 : Cond.sameMethod "java/lang/AbstractStringBuilder" "java/lang/AbstractStringBuilder" "isLatin1" "()Z" ∈ ALLW := wAll (wT6 107 rfl) rfl
set_option maxRecDepth 8000 in
theorem wSe_J4_J5_isLatin1_aae02 : Cond.selects "java/lang/StringBuilder" yJ5_isLatin1_aae02 yJ5_isLatin1_aae02 ∈ ALLW := wAll (wT6 108 rfl) rfl
set_option maxRecDepth 8000 in
theorem wY_J5_isLatin1_aae02 : Cond.code yJ5_isLatin1_aae02 cJ5_isLatin1_aae02 1 (Option.some .boolean) ∈ ALLW := wAll (wT6 109 rfl) rfl
set_option maxRecDepth 8000 in
theorem wM_J5_248 : Cond.methodLink "java/lang/AbstractStringBuilder" 248 yJ6_getChars_ba4f3 ∈ ALLW := wAll (wT6 110 rfl) rfl
set_option maxRecDepth 8000 in
theorem wSt_J6_getChars_ba4f3 : Cond.static yJ6_getChars_ba4f3 ∈ ALLW := wAll (wT6 111 rfl) rfl
set_option maxRecDepth 8000 in
theorem wY_J6_getChars_ba4f3 : Cond.code yJ6_getChars_ba4f3 cJ6_getChars_ba4f3 7 (Option.some .int) ∈ ALLW := wAll (wT6 112 rfl) rfl
set_option maxRecDepth 8000 in
theorem wF_J6_83 : Cond.fieldLink "java/lang/Integer" 83 "java/lang/Integer" "DigitOnes" "[B" ∈ ALLW := wAll (wT6 113 rfl) rfl
set_option maxRecDepth 8000 in
theorem wLS_J6_DigitOnes : Cond.laysStatic "java/lang/Integer" "DigitOnes" "[B" ∈ lw_tbl := wT6 114 rfl
set_option maxRecDepth 8000 in
theorem wF_J6_87 : Cond.fieldLink "java/lang/Integer" 87 "java/lang/Integer" "DigitTens" "[B" ∈ ALLW := wAll (wT6 115 rfl) rfl
set_option maxRecDepth 8000 in
theorem wLS_J6_DigitTens : Cond.laysStatic "java/lang/Integer" "DigitTens" "[B" ∈ lw_tbl := wT6 116 rfl
set_option maxRecDepth 8000 in
theorem wM_X10_323 : Cond.methodLink "CavershamShift" 323 yJ4_append_15ec4 ∈ ALLW := wAll (wT6 149 rfl) rfl
set_option maxRecDepth 8000 in
theorem wIn_J4_append_15ec4 : Cond.instanceMethod yJ4_append_15ec4 ∈ ALLW := wAll (wT6 150 rfl) rfl
set_option maxRecDepth 8000 in
theorem wSe_J4_J4_append_15ec4 : Cond.selects "java/lang/StringBuilder" yJ4_append_15ec4 yJ4_append_15ec4 ∈ ALLW := wAll (wT6 151 rfl) rfl
set_option maxRecDepth 8000 in
theorem wY_J4_append_15ec4 : Cond.code yJ4_append_15ec4 cJ4_append_15ec4 2 (Option.some (.object "java/lang/StringBuilder")) ∈ ALLW := wAll (wT6 152 rfl) rfl
set_option maxRecDepth 8000 in
theorem wM_J4_29 : Cond.methodLink "java/lang/StringBuilder" 29 yJ5_append_cf1ce ∈ ALLW := wAll (wT6 153 rfl) rfl
set_option maxRecDepth 8000 in
theorem wIn_J5_append_cf1ce : Cond.instanceMethod yJ5_append_cf1ce ∈ ALLW := wAll (wT6 154 rfl) rfl
set_option maxRecDepth 8000 in
theorem wY_J5_append_cf1ce : Cond.code yJ5_append_cf1ce cJ5_append_cf1ce 3 (Option.some (.object "java/lang/AbstractStringBuilder")) ∈ ALLW := wAll (wT6 155 rfl) rfl
set_option maxRecDepth 8000 in
theorem wM_J5_32 : Cond.methodLink "java/lang/AbstractStringBuilder" 32 yJ0_length_8abf5 ∈ ALLW := wAll (wT6 163 rfl) rfl
set_option maxRecDepth 8000 in
theorem wIn_J0_length_8abf5 : Cond.instanceMethod yJ0_length_8abf5 ∈ ALLW := wAll (wT6 164 rfl) rfl
set_option maxRecDepth 8000 in
theorem wSe_J0_J0_length_8abf5 : Cond.selects "java/lang/String" yJ0_length_8abf5 yJ0_length_8abf5 ∈ ALLW := wAll (wT6 165 rfl) rfl
set_option maxRecDepth 8000 in
theorem wY_J0_length_8abf5 : Cond.code yJ0_length_8abf5 cJ0_length_8abf5 1 (Option.some .int) ∈ ALLW := wAll (wT6 166 rfl) rfl
set_option maxRecDepth 8000 in
theorem wM_J0_335 : Cond.methodLink "java/lang/String" 335 yJ0_coder_7d493 ∈ ALLW := wAll (wT6 167 rfl) rfl
set_option maxRecDepth 8000 in
theorem wIn_J0_coder_7d493 : Cond.instanceMethod yJ0_coder_7d493 ∈ ALLW := wAll (wT6 168 rfl) rfl
set_option maxRecDepth 8000 in
theorem wSe_J0_J0_coder_7d493 : Cond.selects "java/lang/String" yJ0_coder_7d493 yJ0_coder_7d493 ∈ ALLW := wAll (wT6 169 rfl) rfl
set_option maxRecDepth 8000 in
theorem wY_J0_coder_7d493 : Cond.code yJ0_coder_7d493 cJ0_coder_7d493 1 (Option.some .byte) ∈ ALLW := wAll (wT6 170 rfl) rfl
set_option maxRecDepth 8000 in
theorem wF_J0_38 : Cond.fieldLink "java/lang/String" 38 "java/lang/String" "COMPACT_STRINGS" "Z" ∈ ALLW := wAll (wT6 171 rfl) rfl
set_option maxRecDepth 8000 in
theorem wM_J5_208 : Cond.methodLink "java/lang/AbstractStringBuilder" 208 yJ5_putStringAt_47b60 ∈ ALLW := wAll (wT6 172 rfl) rfl
set_option maxRecDepth 8000 in
theorem wIn_J5_putStringAt_47b60 : Cond.instanceMethod yJ5_putStringAt_47b60 ∈ ALLW := wAll (wT6 174 rfl) rfl
set_option maxRecDepth 8000 in
theorem wY_J5_putStringAt_47b60 : Cond.code yJ5_putStringAt_47b60 cJ5_putStringAt_47b60 3 (none) ∈ ALLW := wAll (wT6 175 rfl) rfl
set_option maxRecDepth 8000 in
theorem wM_J5_397 : Cond.methodLink "java/lang/AbstractStringBuilder" 397 yJ5_inflateIfNeededFor_a7421 ∈ ALLW := wAll (wT6 176 rfl) rfl
set_option maxRecDepth 8000 in
theorem wIn_J5_inflateIfNeededFor_a7421 : Cond.instanceMethod yJ5_inflateIfNeededFor_a7421 ∈ ALLW := wAll (wT6 178 rfl) rfl
set_option maxRecDepth 8000 in
theorem wY_J5_inflateIfNeededFor_a7421 : Cond.code yJ5_inflateIfNeededFor_a7421 cJ5_inflateIfNeededFor_a7421 2 (none) ∈ ALLW := wAll (wT6 179 rfl) rfl
set_option maxRecDepth 8000 in
theorem wM_J5_40 : Cond.methodLink "java/lang/AbstractStringBuilder" 40 yJ0_coder_7d493 ∈ ALLW := wAll (wT6 180 rfl) rfl
set_option maxRecDepth 8000 in
theorem wM_J5_399 : Cond.methodLink "java/lang/AbstractStringBuilder" 399 yJ0_getBytes_840e7 ∈ ALLW := wAll (wT6 200 rfl) rfl
set_option maxRecDepth 8000 in
theorem wIn_J0_getBytes_840e7 : Cond.instanceMethod yJ0_getBytes_840e7 ∈ ALLW := wAll (wT6 201 rfl) rfl
set_option maxRecDepth 8000 in
theorem wSe_J0_J0_getBytes_840e7 : Cond.selects "java/lang/String" yJ0_getBytes_840e7 yJ0_getBytes_840e7 ∈ ALLW := wAll (wT6 202 rfl) rfl
set_option maxRecDepth 8000 in
theorem wY_J0_getBytes_840e7 : Cond.code yJ0_getBytes_840e7 cJ0_getBytes_840e7 4 (none) ∈ ALLW := wAll (wT6 203 rfl) rfl
set_option maxRecDepth 8000 in
theorem wM_J0_212 : Cond.methodLink "java/lang/String" 212 ⟨"java/lang/System", "arraycopy", "(Ljava/lang/Object;ILjava/lang/Object;II)V"⟩ ∈ ALLW := wAll (wT6 204 rfl) rfl
set_option maxRecDepth 8000 in
theorem wM_X10_343 : Cond.methodLink "CavershamShift" 343 yX10_sortWord ∈ ALLW := wAll (wT6 210 rfl) rfl
set_option maxRecDepth 8000 in
theorem wSt_X10_sortWord : Cond.static yX10_sortWord ∈ ALLW := wAll (wT6 211 rfl) rfl
set_option maxRecDepth 8000 in
theorem wY_X10_sortWord : Cond.code yX10_sortWord cX10_sortWord 1 (Option.some (.object "java/lang/String")) ∈ ALLW := wAll (wT6 212 rfl) rfl
set_option maxRecDepth 8000 in
theorem wM_X10_350 : Cond.methodLink "CavershamShift" 350 yX10_stateWord ∈ ALLW := wAll (wT6 217 rfl) rfl
set_option maxRecDepth 8000 in
theorem wSt_X10_stateWord : Cond.static yX10_stateWord ∈ ALLW := wAll (wT6 218 rfl) rfl
set_option maxRecDepth 8000 in
theorem wY_X10_stateWord : Cond.code yX10_stateWord cX10_stateWord 1 (Option.some (.object "java/lang/String")) ∈ ALLW := wAll (wT6 219 rfl) rfl
set_option maxRecDepth 8000 in
theorem wM_X10_353 : Cond.methodLink "CavershamShift" 353 yJ4_toString_0e30d ∈ ALLW := wAll (wT6 224 rfl) rfl
set_option maxRecDepth 8000 in
theorem wIn_J4_toString_0e30d : Cond.instanceMethod yJ4_toString_0e30d ∈ ALLW := wAll (wT6 225 rfl) rfl
set_option maxRecDepth 8000 in
theorem wSe_J4_J4_toString_0e30d : Cond.selects "java/lang/StringBuilder" yJ4_toString_0e30d yJ4_toString_0e30d ∈ ALLW := wAll (wT6 226 rfl) rfl
set_option maxRecDepth 8000 in
theorem wY_J4_toString_0e30d : Cond.code yJ4_toString_0e30d cJ4_toString_0e30d 1 (Option.some (.object "java/lang/String")) ∈ ALLW := wAll (wT6 227 rfl) rfl
set_option maxRecDepth 8000 in
theorem wC_J4_18 : Cond.classLink "java/lang/StringBuilder" 18 "java/lang/String" ∈ ALLW := wAll (wT6 228 rfl) rfl
set_option maxRecDepth 8000 in
theorem wNew_J0 : Cond.instantiable "java/lang/String" 4 ∈ ALLW := wAll (wT6 229 rfl) rfl
set_option maxRecDepth 8000 in
theorem wM_J4_137 : Cond.methodLink "java/lang/StringBuilder" 137 yJ0_init_81219 ∈ ALLW := wAll (wT6 230 rfl) rfl
set_option maxRecDepth 8000 in
theorem wIn_J0_init_81219 : Cond.instanceMethod yJ0_init_81219 ∈ ALLW := wAll (wT6 231 rfl) rfl
set_option maxRecDepth 8000 in
theorem wY_J0_init_81219 : Cond.code yJ0_init_81219 cJ0_init_81219 2 (none) ∈ ALLW := wAll (wT6 232 rfl) rfl
set_option maxRecDepth 8000 in
theorem wM_J0_489 : Cond.methodLink "java/lang/String" 489 yJ0_init_db425 ∈ ALLW := wAll (wT6 233 rfl) rfl
set_option maxRecDepth 8000 in
theorem wIn_J0_init_db425 : Cond.instanceMethod yJ0_init_db425 ∈ ALLW := wAll (wT6 234 rfl) rfl
set_option maxRecDepth 8000 in
theorem wY_J0_init_db425 : Cond.code yJ0_init_db425 cJ0_init_db425 5 (none) ∈ ALLW := wAll (wT6 235 rfl) rfl
set_option maxRecDepth 8000 in
theorem wM_J0_1 : Cond.methodLink "java/lang/String" 1 objectInit ∈ ALLW := wAll (wT6 236 rfl) rfl
set_option maxRecDepth 8000 in
theorem wM_J0_552 : Cond.methodLink "java/lang/String" 552 yJ5_getValue_6d5f1 ∈ ALLW := wAll (wT6 237 rfl) rfl
set_option maxRecDepth 8000 in
theorem wIn_J5_getValue_6d5f1 : Cond.instanceMethod yJ5_getValue_6d5f1 ∈ ALLW := wAll (wT6 238 rfl) rfl
set_option maxRecDepth 8000 in
theorem wZ_1439 : Cond.sameMethod "java/lang/AbstractStringBuilder" "java/lang/AbstractStringBuilder" "getValue" "()[B" ∈ ALLW := wAll (wT6 239 rfl) rfl
set_option maxRecDepth 8000 in
theorem wSe_J4_J5_getValue_6d5f1 : Cond.selects "java/lang/StringBuilder" yJ5_getValue_6d5f1 yJ5_getValue_6d5f1 ∈ ALLW := wAll (wT7 0 rfl) rfl
set_option maxRecDepth 8000 in
theorem wY_J5_getValue_6d5f1 : Cond.code yJ5_getValue_6d5f1 cJ5_getValue_6d5f1 1 (Option.some (.array .byte)) ∈ ALLW := wAll (wT7 1 rfl) rfl
set_option maxRecDepth 8000 in
theorem wM_J0_549 : Cond.methodLink "java/lang/String" 549 yJ5_length_8abf5 ∈ ALLW := wAll (wT7 2 rfl) rfl
set_option maxRecDepth 8000 in
theorem wIn_J5_length_8abf5 : Cond.instanceMethod yJ5_length_8abf5 ∈ ALLW := wAll (wT7 3 rfl) rfl
set_option maxRecDepth 8000 in
theorem wZ_1444 : Cond.sameMethod "java/lang/AbstractStringBuilder" "java/lang/AbstractStringBuilder" "length" "()I" ∈ ALLW := wAll (wT7 4 rfl) rfl
set_option maxRecDepth 8000 in
theorem wSe_J4_J4_length_8abf5_of_J5_length_8abf5 : Cond.selects "java/lang/StringBuilder" yJ5_length_8abf5 yJ4_length_8abf5 ∈ ALLW := wAll (wT7 5 rfl) rfl
set_option maxRecDepth 8000 in
theorem wIn_J4_length_8abf5 : Cond.instanceMethod yJ4_length_8abf5 ∈ ALLW := wAll (wT7 6 rfl) rfl
set_option maxRecDepth 8000 in
theorem wY_J4_length_8abf5 : Cond.code yJ4_length_8abf5 cJ4_length_8abf5 1 (Option.some .int) ∈ ALLW := wAll (wT7 7 rfl) rfl
set_option maxRecDepth 8000 in
theorem wM_J4_343 : Cond.methodLink "java/lang/StringBuilder" 343 yJ5_length_8abf5 ∈ ALLW := wAll (wT7 8 rfl) rfl
set_option maxRecDepth 8000 in
theorem wY_J5_length_8abf5 : Cond.code yJ5_length_8abf5 cJ5_length_8abf5 1 (Option.some .int) ∈ ALLW := wAll (wT7 9 rfl) rfl
set_option maxRecDepth 8000 in
theorem wM_J0_1047 : Cond.methodLink "java/lang/String" 1047 yJ5_isLatin1_aae02 ∈ ALLW := wAll (wT7 10 rfl) rfl
set_option maxRecDepth 8000 in
theorem wM_J0_54 : Cond.methodLink "java/lang/String" 54 yJ7_copyOfRange_39247 ∈ ALLW := wAll (wT7 11 rfl) rfl
set_option maxRecDepth 8000 in
theorem wSt_J7_copyOfRange_39247 : Cond.static yJ7_copyOfRange_39247 ∈ ALLW := wAll (wT7 12 rfl) rfl
set_option maxRecDepth 8000 in
theorem wY_J7_copyOfRange_39247 : Cond.code yJ7_copyOfRange_39247 cJ7_copyOfRange_39247 3 (Option.some (.array .byte)) ∈ ALLW := wAll (wT7 13 rfl) rfl
set_option maxRecDepth 8000 in
theorem wM_J7_339 : Cond.methodLink "java/util/Arrays" 339 yJ7_copyOfRangeByte_39247 ∈ ALLW := wAll (wT7 14 rfl) rfl
set_option maxRecDepth 8000 in
theorem wSt_J7_copyOfRangeByte_39247 : Cond.static yJ7_copyOfRangeByte_39247 ∈ ALLW := wAll (wT7 15 rfl) rfl
set_option maxRecDepth 8000 in
theorem wY_J7_copyOfRangeByte_39247 : Cond.code yJ7_copyOfRangeByte_39247 cJ7_copyOfRangeByte_39247 5 (Option.some (.array .byte)) ∈ ALLW := wAll (wT7 16 rfl) rfl
set_option maxRecDepth 8000 in
theorem wM_J7_343 : Cond.methodLink "java/util/Arrays" 343 yJ7_checkLength_df160 ∈ ALLW := wAll (wT7 17 rfl) rfl
set_option maxRecDepth 8000 in
theorem wSt_J7_checkLength_df160 : Cond.static yJ7_checkLength_df160 ∈ ALLW := wAll (wT7 18 rfl) rfl
set_option maxRecDepth 8000 in
theorem wY_J7_checkLength_df160 : Cond.code yJ7_checkLength_df160 cJ7_checkLength_df160 2 (none) ∈ ALLW := wAll (wT7 19 rfl) rfl
set_option maxRecDepth 8000 in
theorem wF_J0_9 : Cond.fieldLink "java/lang/String" 9 "java/lang/String" "value" "[B" ∈ ALLW := wAll (wT7 41 rfl) rfl
set_option maxRecDepth 8000 in
theorem wF_J0_15 : Cond.fieldLink "java/lang/String" 15 "java/lang/String" "coder" "B" ∈ ALLW := wAll (wT7 42 rfl) rfl
set_option maxRecDepth 8000 in
theorem wM_L_226 : Cond.methodLink "CavershamShiftLaw" 226 yL_best ∈ ALLW := wAll (wT7 52 rfl) rfl
set_option maxRecDepth 8000 in
theorem wSt_L_best : Cond.static yL_best ∈ ALLW := wAll (wT7 53 rfl) rfl
set_option maxRecDepth 8000 in
theorem wYW_L_best : Cond.codeWith yL_best cL_best 4 (Option.some .int) [(0, 10, 13, 27)] ∈ ALLW := wAll (wT7 54 rfl) rfl
set_option maxRecDepth 8000 in
theorem wM_L_118 : Cond.methodLink "CavershamShiftLaw" 118 yX10_best ∈ ALLW := wAll (wT7 55 rfl) rfl
set_option maxRecDepth 8000 in
theorem wIn_X10_best : Cond.instanceMethod yX10_best ∈ ALLW := wAll (wT7 56 rfl) rfl
set_option maxRecDepth 8000 in
theorem wSe_X10_X10_best : Cond.selects "CavershamShift" yX10_best yX10_best ∈ ALLW := wAll (wT7 57 rfl) rfl
set_option maxRecDepth 8000 in
theorem wY_X10_best : Cond.code yX10_best cX10_best 2 (Option.some .int) ∈ ALLW := wAll (wT7 58 rfl) rfl
set_option maxRecDepth 8000 in
theorem wM_L_229 : Cond.methodLink "CavershamShiftLaw" 229 yL_bestAt ∈ ALLW := wAll (wT7 60 rfl) rfl
set_option maxRecDepth 8000 in
theorem wSt_L_bestAt : Cond.static yL_bestAt ∈ ALLW := wAll (wT7 61 rfl) rfl
set_option maxRecDepth 8000 in
theorem wYW_L_bestAt : Cond.codeWith yL_bestAt cL_bestAt 6 (Option.some .int) [(0, 13, 16, 27)] ∈ ALLW := wAll (wT7 62 rfl) rfl
set_option maxRecDepth 8000 in
theorem wM_L_121 : Cond.methodLink "CavershamShiftLaw" 121 yX10_bestAt ∈ ALLW := wAll (wT7 63 rfl) rfl
set_option maxRecDepth 8000 in
theorem wIn_X10_bestAt : Cond.instanceMethod yX10_bestAt ∈ ALLW := wAll (wT7 64 rfl) rfl
set_option maxRecDepth 8000 in
theorem wSe_X10_X10_bestAt : Cond.selects "CavershamShift" yX10_bestAt yX10_bestAt ∈ ALLW := wAll (wT7 65 rfl) rfl
set_option maxRecDepth 8000 in
theorem wY_X10_bestAt : Cond.code yX10_bestAt cX10_bestAt 4 (Option.some .int) ∈ ALLW := wAll (wT7 66 rfl) rfl
set_option maxRecDepth 8000 in
theorem wM_L_235 : Cond.methodLink "CavershamShiftLaw" 235 yL_wouldHear ∈ ALLW := wAll (wT7 67 rfl) rfl
set_option maxRecDepth 8000 in
theorem wSt_L_wouldHear : Cond.static yL_wouldHear ∈ ALLW := wAll (wT7 68 rfl) rfl
set_option maxRecDepth 8000 in
theorem wYW_L_wouldHear : Cond.codeWith yL_wouldHear cL_wouldHear 4 (Option.some .int) [(0, 10, 13, 27), (0, 10, 16, 21)] ∈ ALLW := wAll (wT7 69 rfl) rfl
set_option maxRecDepth 8000 in
theorem wM_L_124 : Cond.methodLink "CavershamShiftLaw" 124 yX10_wouldHear ∈ ALLW := wAll (wT7 70 rfl) rfl
set_option maxRecDepth 8000 in
theorem wIn_X10_wouldHear : Cond.instanceMethod yX10_wouldHear ∈ ALLW := wAll (wT7 71 rfl) rfl
set_option maxRecDepth 8000 in
theorem wSe_X10_X10_wouldHear : Cond.selects "CavershamShift" yX10_wouldHear yX10_wouldHear ∈ ALLW := wAll (wT7 72 rfl) rfl
set_option maxRecDepth 8000 in
theorem wY_X10_wouldHear : Cond.code yX10_wouldHear cX10_wouldHear 4 (Option.some .int) ∈ ALLW := wAll (wT7 73 rfl) rfl
set_option maxRecDepth 8000 in
theorem wC_L_128 : Cond.classLink "CavershamShiftLaw" 128 "CavershamShiftModel" ∈ ALLW := wAll (wT7 75 rfl) rfl
set_option maxRecDepth 8000 in
theorem wNew_X16 : Cond.instantiable "CavershamShiftModel" 14 ∈ ALLW := wAll (wT7 76 rfl) rfl
set_option maxRecDepth 8000 in
theorem wM_L_130 : Cond.methodLink "CavershamShiftLaw" 130 yX16_init ∈ ALLW := wAll (wT7 77 rfl) rfl
set_option maxRecDepth 8000 in
theorem wIn_X16_init : Cond.instanceMethod yX16_init ∈ ALLW := wAll (wT7 78 rfl) rfl
set_option maxRecDepth 8000 in
theorem wY_X16_init : Cond.code yX16_init cX16_init 3 (none) ∈ ALLW := wAll (wT7 79 rfl) rfl
set_option maxRecDepth 8000 in
theorem wM_X16_1 : Cond.methodLink "CavershamShiftModel" 1 objectInit ∈ ALLW := wAll (wT7 80 rfl) rfl
set_option maxRecDepth 8000 in
theorem wC_X16_13 : Cond.classLink "CavershamShiftModel" 13 "java/util/ArrayList" ∈ ALLW := wAll (wT7 81 rfl) rfl
set_option maxRecDepth 8000 in
theorem wM_X16_15 : Cond.methodLink "CavershamShiftModel" 15 yJx4a65c_init_da8c8 ∈ ALLW := wAll (wT7 82 rfl) rfl
set_option maxRecDepth 8000 in
theorem wC_X16_35 : Cond.classLink "CavershamShiftModel" 35 "[[I" ∈ ALLW := wAll (wT7 83 rfl) rfl
set_option maxRecDepth 8000 in
theorem wAO_int : Cond.arrayOver (.array .int) ∈ lw_tbl := wT7 84 rfl
set_option maxRecDepth 8000 in
theorem wF_X16_43 : Cond.fieldLink "CavershamShiftModel" 43 "CavershamShiftModel" "thrown" "I" ∈ ALLW := wAll (wT7 85 rfl) rfl
set_option maxRecDepth 8000 in
theorem wF_X16_125 : Cond.fieldLink "CavershamShiftModel" 125 "CavershamShiftModel" "hour" "I" ∈ ALLW := wAll (wT7 86 rfl) rfl
set_option maxRecDepth 8000 in
theorem wF_X16_7 : Cond.fieldLink "CavershamShiftModel" 7 "CavershamShiftModel" "wire" "I" ∈ ALLW := wAll (wT7 87 rfl) rfl
set_option maxRecDepth 8000 in
theorem wF_X16_138 : Cond.fieldLink "CavershamShiftModel" 138 "CavershamShiftModel" "partner" "I" ∈ ALLW := wAll (wT7 88 rfl) rfl
set_option maxRecDepth 8000 in
theorem wF_X16_264 : Cond.fieldLink "CavershamShiftModel" 264 "CavershamShiftModel" "refused" "I" ∈ ALLW := wAll (wT7 89 rfl) rfl
set_option maxRecDepth 8000 in
theorem wF_X16_185 : Cond.fieldLink "CavershamShiftModel" 185 "CavershamShiftModel" "sendings" "I" ∈ ALLW := wAll (wT7 90 rfl) rfl
set_option maxRecDepth 8000 in
theorem wF_X16_16 : Cond.fieldLink "CavershamShiftModel" 16 "CavershamShiftModel" "stations" "Ljava/util/List;" ∈ ALLW := wAll (wT7 91 rfl) rfl
set_option maxRecDepth 8000 in
theorem wF_X16_20 : Cond.fieldLink "CavershamShiftModel" 20 "CavershamShiftModel" "jammers" "Ljava/util/List;" ∈ ALLW := wAll (wT7 92 rfl) rfl
set_option maxRecDepth 8000 in
theorem wF_X16_23 : Cond.fieldLink "CavershamShiftModel" 23 "CavershamShiftModel" "monitors" "Ljava/util/List;" ∈ ALLW := wAll (wT7 93 rfl) rfl
set_option maxRecDepth 8000 in
theorem wF_X16_26 : Cond.fieldLink "CavershamShiftModel" 26 "CavershamShiftModel" "talks" "Ljava/util/List;" ∈ ALLW := wAll (wT7 94 rfl) rfl
set_option maxRecDepth 8000 in
theorem wF_X16_29 : Cond.fieldLink "CavershamShiftModel" 29 "CavershamShiftModel" "readers" "Ljava/util/List;" ∈ ALLW := wAll (wT7 95 rfl) rfl
set_option maxRecDepth 8000 in
theorem wF_X16_32 : Cond.fieldLink "CavershamShiftModel" 32 "CavershamShiftModel" "queue" "Ljava/util/List;" ∈ ALLW := wAll (wT7 96 rfl) rfl
set_option maxRecDepth 8000 in
theorem wF_X16_37 : Cond.fieldLink "CavershamShiftModel" 37 "CavershamShiftModel" "heard" "[[I" ∈ ALLW := wAll (wT7 97 rfl) rfl
set_option maxRecDepth 8000 in
theorem wF_X16_40 : Cond.fieldLink "CavershamShiftModel" 40 "CavershamShiftModel" "sits" "[[I" ∈ ALLW := wAll (wT7 98 rfl) rfl
set_option maxRecDepth 8000 in
theorem wM_L_232 : Cond.methodLink "CavershamShiftLaw" 232 yX16_thrown ∈ ALLW := wAll (wT7 128 rfl) rfl
set_option maxRecDepth 8000 in
theorem wIn_X16_thrown : Cond.instanceMethod yX16_thrown ∈ ALLW := wAll (wT7 129 rfl) rfl
set_option maxRecDepth 8000 in
theorem wSe_X16_X16_thrown : Cond.selects "CavershamShiftModel" yX16_thrown yX16_thrown ∈ ALLW := wAll (wT7 130 rfl) rfl
set_option maxRecDepth 8000 in
theorem wY_X16_thrown : Cond.code yX16_thrown cX16_thrown 1 (Option.some .int) ∈ ALLW := wAll (wT7 131 rfl) rfl
set_option maxRecDepth 8000 in
theorem wM_L_137 : Cond.methodLink "CavershamShiftLaw" 137 yX16_station ∈ ALLW := wAll (wT7 132 rfl) rfl
set_option maxRecDepth 8000 in
theorem wIn_X16_station : Cond.instanceMethod yX16_station ∈ ALLW := wAll (wT7 133 rfl) rfl
set_option maxRecDepth 8000 in
theorem wSe_X16_X16_station : Cond.selects "CavershamShiftModel" yX16_station yX16_station ∈ ALLW := wAll (wT7 134 rfl) rfl
set_option maxRecDepth 8000 in
theorem wY_X16_station : Cond.code yX16_station cX16_station 7 (Option.some .int) ∈ ALLW := wAll (wT7 135 rfl) rfl
set_option maxRecDepth 8000 in
theorem wM_X16_224 : Cond.methodLink "CavershamShiftModel" 224 yX16_in ∈ ALLW := wAll (wT7 136 rfl) rfl
set_option maxRecDepth 8000 in
theorem wSt_X16_in : Cond.static yX16_in ∈ ALLW := wAll (wT7 137 rfl) rfl
set_option maxRecDepth 8000 in
theorem wY_X16_in : Cond.code yX16_in cX16_in 3 (Option.some .boolean) ∈ ALLW := wAll (wT7 138 rfl) rfl
set_option maxRecDepth 8000 in
theorem wK_X16_228 : Cond.constant "CavershamShiftModel" 228 (16777215) ∈ ALLW := wAll (wT7 139 rfl) rfl
set_option maxRecDepth 8000 in
theorem wM_X16_229 : Cond.methodLink "CavershamShiftModel" 229 yX16_no ∈ ALLW := wAll (wT7 140 rfl) rfl
set_option maxRecDepth 8000 in
theorem wIn_X16_no : Cond.instanceMethod yX16_no ∈ ALLW := wAll (wT7 142 rfl) rfl
set_option maxRecDepth 8000 in
theorem wY_X16_no : Cond.code yX16_no cX16_no 2 (Option.some .int) ∈ ALLW := wAll (wT7 143 rfl) rfl
set_option maxRecDepth 8000 in
theorem wM_X16_73 : Cond.methodLink "CavershamShiftModel" 73 ⟨"java/util/List", "size", "()I"⟩ ∈ ALLW := wAll (wT7 145 rfl) rfl
set_option maxRecDepth 8000 in
theorem wIM_size__I : Cond.interfaceMethod "java/util/List" "java/util/List" "size" "()I" ∈ lw_tbl := wT7 146 rfl
set_option maxRecDepth 8000 in
theorem wDe_java_util_List_size___I : Cond.declares ⟨"java/util/List", "size", "()I"⟩ ∈ NSTW := wNst (wT7 147 rfl) rfl
set_option maxRecDepth 8000 in
theorem wCa_Jx4a65c_Jxbd725 : Cond.castable "java/util/ArrayList" "java/util/List" ∈ NSTW := wNst (wT7 148 rfl) rfl
set_option maxRecDepth 8000 in
theorem wSe_Jx4a65c_Jx4a65c_size_8abf5_of_java_util_List_size___I : Cond.selects "java/util/ArrayList" ⟨"java/util/List", "size", "()I"⟩ yJx4a65c_size_8abf5 ∈ ALLW := wAll (wT7 149 rfl) rfl
set_option maxRecDepth 8000 in
theorem wUn_Jx4a65c_size__I : Cond.unhidden "java/util/ArrayList" "size" "()I" ∈ lw_tbl := wT7 150 rfl
set_option maxRecDepth 8000 in
theorem wPu_Jx4a65c_size_8abf5 : Cond.publicMethod yJx4a65c_size_8abf5 ∈ lw_tbl := wT7 151 rfl
set_option maxRecDepth 8000 in
theorem wC_X16_52 : Cond.classLink "CavershamShiftModel" 52 "CavershamShiftModel$Station" ∈ ALLW := wAll (wT7 152 rfl) rfl
set_option maxRecDepth 8000 in
theorem wNew_X14 : Cond.instantiable "CavershamShiftModel$Station" 6 ∈ ALLW := wAll (wT7 153 rfl) rfl
set_option maxRecDepth 8000 in
theorem wM_X16_232 : Cond.methodLink "CavershamShiftModel" 232 yX14_init ∈ ALLW := wAll (wT7 154 rfl) rfl
set_option maxRecDepth 8000 in
theorem wIn_X14_init : Cond.instanceMethod yX14_init ∈ ALLW := wAll (wT7 155 rfl) rfl
set_option maxRecDepth 8000 in
theorem wY_X14_init : Cond.code yX14_init cX14_init 7 (none) ∈ ALLW := wAll (wT7 156 rfl) rfl
set_option maxRecDepth 8000 in
theorem wM_X14_1 : Cond.methodLink "CavershamShiftModel$Station" 1 objectInit ∈ ALLW := wAll (wT7 157 rfl) rfl
set_option maxRecDepth 8000 in
theorem wF_X14_13 : Cond.fieldLink "CavershamShiftModel$Station" 13 "CavershamShiftModel$Station" "power" "I" ∈ ALLW := wAll (wT7 158 rfl) rfl
set_option maxRecDepth 8000 in
theorem wF_X16_64 : Cond.fieldLink "CavershamShiftModel" 64 "CavershamShiftModel$Station" "power" "I" ∈ ALLW := wAll (wT7 159 rfl) rfl
set_option maxRecDepth 8000 in
theorem wF_X14_16 : Cond.fieldLink "CavershamShiftModel$Station" 16 "CavershamShiftModel$Station" "far" "I" ∈ ALLW := wAll (wT7 160 rfl) rfl
set_option maxRecDepth 8000 in
theorem wF_X16_67 : Cond.fieldLink "CavershamShiftModel" 67 "CavershamShiftModel$Station" "far" "I" ∈ ALLW := wAll (wT7 161 rfl) rfl
set_option maxRecDepth 8000 in
theorem wF_X14_19 : Cond.fieldLink "CavershamShiftModel$Station" 19 "CavershamShiftModel$Station" "land" "I" ∈ ALLW := wAll (wT7 162 rfl) rfl
set_option maxRecDepth 8000 in
theorem wF_X16_109 : Cond.fieldLink "CavershamShiftModel" 109 "CavershamShiftModel$Station" "land" "I" ∈ ALLW := wAll (wT7 163 rfl) rfl
set_option maxRecDepth 8000 in
theorem wF_X14_22 : Cond.fieldLink "CavershamShiftModel$Station" 22 "CavershamShiftModel$Station" "tongue" "I" ∈ ALLW := wAll (wT7 164 rfl) rfl
set_option maxRecDepth 8000 in
theorem wF_X16_98 : Cond.fieldLink "CavershamShiftModel" 98 "CavershamShiftModel$Station" "tongue" "I" ∈ ALLW := wAll (wT7 165 rfl) rfl
set_option maxRecDepth 8000 in
theorem wF_X14_25 : Cond.fieldLink "CavershamShiftModel$Station" 25 "CavershamShiftModel$Station" "hours" "I" ∈ ALLW := wAll (wT7 166 rfl) rfl
set_option maxRecDepth 8000 in
theorem wF_X16_54 : Cond.fieldLink "CavershamShiftModel" 54 "CavershamShiftModel$Station" "hours" "I" ∈ ALLW := wAll (wT7 167 rfl) rfl
set_option maxRecDepth 8000 in
theorem wF_X14_7 : Cond.fieldLink "CavershamShiftModel$Station" 7 "CavershamShiftModel$Station" "band" "I" ∈ ALLW := wAll (wT7 168 rfl) rfl
set_option maxRecDepth 8000 in
theorem wF_X16_70 : Cond.fieldLink "CavershamShiftModel" 70 "CavershamShiftModel$Station" "band" "I" ∈ ALLW := wAll (wT7 169 rfl) rfl
set_option maxRecDepth 8000 in
theorem wM_X16_170 : Cond.methodLink "CavershamShiftModel" 170 ⟨"java/util/List", "add", "(Ljava/lang/Object;)Z"⟩ ∈ ALLW := wAll (wT7 184 rfl) rfl
set_option maxRecDepth 8000 in
theorem wIM_add_Ljava_lang_Object__Z : Cond.interfaceMethod "java/util/List" "java/util/List" "add" "(Ljava/lang/Object;)Z" ∈ lw_tbl := wT7 185 rfl
set_option maxRecDepth 8000 in
theorem wDe_java_util_List_add__Ljava_lang_Object__Z : Cond.declares ⟨"java/util/List", "add", "(Ljava/lang/Object;)Z"⟩ ∈ NSTW := wNst (wT7 186 rfl) rfl
set_option maxRecDepth 8000 in
theorem wSe_Jx4a65c_Jx4a65c_add_9ea2d_of_java_util_List_add__Ljava_lang_Object__Z : Cond.selects "java/util/ArrayList" ⟨"java/util/List", "add", "(Ljava/lang/Object;)Z"⟩ yJx4a65c_add_9ea2d ∈ ALLW := wAll (wT7 187 rfl) rfl
set_option maxRecDepth 8000 in
theorem wUn_Jx4a65c_add_Ljava_lang_Object__Z : Cond.unhidden "java/util/ArrayList" "add" "(Ljava/lang/Object;)Z" ∈ lw_tbl := wT7 188 rfl
set_option maxRecDepth 8000 in
theorem wPu_Jx4a65c_add_9ea2d : Cond.publicMethod yJx4a65c_add_9ea2d ∈ lw_tbl := wT7 189 rfl
set_option maxRecDepth 8000 in
theorem wM_L_141 : Cond.methodLink "CavershamShiftLaw" 141 yX16_drift ∈ ALLW := wAll (wT7 190 rfl) rfl
set_option maxRecDepth 8000 in
theorem wIn_X16_drift : Cond.instanceMethod yX16_drift ∈ ALLW := wAll (wT7 191 rfl) rfl
set_option maxRecDepth 8000 in
theorem wSe_X16_X16_drift : Cond.selects "CavershamShiftModel" yX16_drift yX16_drift ∈ ALLW := wAll (wT7 192 rfl) rfl
set_option maxRecDepth 8000 in
theorem wY_X16_drift : Cond.code yX16_drift cX16_drift 4 (Option.some .int) ∈ ALLW := wAll (wT7 193 rfl) rfl
set_option maxRecDepth 8000 in
theorem wM_X16_235 : Cond.methodLink "CavershamShiftModel" 235 yX16_isStation ∈ ALLW := wAll (wT7 194 rfl) rfl
set_option maxRecDepth 8000 in
theorem wIn_X16_isStation : Cond.instanceMethod yX16_isStation ∈ ALLW := wAll (wT7 196 rfl) rfl
set_option maxRecDepth 8000 in
theorem wY_X16_isStation : Cond.code yX16_isStation cX16_isStation 2 (Option.some .boolean) ∈ ALLW := wAll (wT7 197 rfl) rfl
set_option maxRecDepth 8000 in
theorem wM_X16_46 : Cond.methodLink "CavershamShiftModel" 46 ⟨"java/util/List", "get", "(I)Ljava/lang/Object;"⟩ ∈ ALLW := wAll (wT7 199 rfl) rfl
set_option maxRecDepth 8000 in
theorem wIM_get_I_Ljava_lang_Object_ : Cond.interfaceMethod "java/util/List" "java/util/List" "get" "(I)Ljava/lang/Object;" ∈ lw_tbl := wT7 200 rfl
set_option maxRecDepth 8000 in
theorem wDe_java_util_List_get__I_Ljava_lang_Object_ : Cond.declares ⟨"java/util/List", "get", "(I)Ljava/lang/Object;"⟩ ∈ NSTW := wNst (wT7 201 rfl) rfl
set_option maxRecDepth 8000 in
theorem wSe_Jx4a65c_Jx4a65c_get_915e3_of_java_util_List_get__I_Ljava_lang_Object_ : Cond.selects "java/util/ArrayList" ⟨"java/util/List", "get", "(I)Ljava/lang/Object;"⟩ yJx4a65c_get_915e3 ∈ ALLW := wAll (wT7 202 rfl) rfl
set_option maxRecDepth 8000 in
theorem wUn_Jx4a65c_get_I_Ljava_lang_Object_ : Cond.unhidden "java/util/ArrayList" "get" "(I)Ljava/lang/Object;" ∈ lw_tbl := wT7 203 rfl
set_option maxRecDepth 8000 in
theorem wPu_Jx4a65c_get_915e3 : Cond.publicMethod yJx4a65c_get_915e3 ∈ lw_tbl := wT7 204 rfl
set_option maxRecDepth 8000 in
theorem wM_L_144 : Cond.methodLink "CavershamShiftLaw" 144 yX16_jammer ∈ ALLW := wAll (wT7 205 rfl) rfl
set_option maxRecDepth 8000 in
theorem wIn_X16_jammer : Cond.instanceMethod yX16_jammer ∈ ALLW := wAll (wT7 206 rfl) rfl
set_option maxRecDepth 8000 in
theorem wSe_X16_X16_jammer : Cond.selects "CavershamShiftModel" yX16_jammer yX16_jammer ∈ ALLW := wAll (wT7 207 rfl) rfl
set_option maxRecDepth 8000 in
theorem wY_X16_jammer : Cond.code yX16_jammer cX16_jammer 3 (Option.some .int) ∈ ALLW := wAll (wT7 208 rfl) rfl
set_option maxRecDepth 8000 in
theorem wM_L_147 : Cond.methodLink "CavershamShiftLaw" 147 yX16_jam ∈ ALLW := wAll (wT7 209 rfl) rfl
set_option maxRecDepth 8000 in
theorem wIn_X16_jam : Cond.instanceMethod yX16_jam ∈ ALLW := wAll (wT7 210 rfl) rfl
set_option maxRecDepth 8000 in
theorem wSe_X16_X16_jam : Cond.selects "CavershamShiftModel" yX16_jam yX16_jam ∈ ALLW := wAll (wT7 211 rfl) rfl
set_option maxRecDepth 8000 in
theorem wY_X16_jam : Cond.code yX16_jam cX16_jam 4 (Option.some .int) ∈ ALLW := wAll (wT7 212 rfl) rfl
set_option maxRecDepth 8000 in
theorem wC_X16_77 : Cond.classLink "CavershamShiftModel" 77 "[I" ∈ ALLW := wAll (wT7 213 rfl) rfl
set_option maxRecDepth 8000 in
theorem wM_L_151 : Cond.methodLink "CavershamShiftLaw" 151 yX16_monitor ∈ ALLW := wAll (wT7 214 rfl) rfl
set_option maxRecDepth 8000 in
theorem wIn_X16_monitor : Cond.instanceMethod yX16_monitor ∈ ALLW := wAll (wT7 215 rfl) rfl
set_option maxRecDepth 8000 in
theorem wSe_X16_X16_monitor : Cond.selects "CavershamShiftModel" yX16_monitor yX16_monitor ∈ ALLW := wAll (wT7 216 rfl) rfl
set_option maxRecDepth 8000 in
theorem wY_X16_monitor : Cond.code yX16_monitor cX16_monitor 5 (Option.some .int) ∈ ALLW := wAll (wT7 217 rfl) rfl
set_option maxRecDepth 8000 in
theorem wK_X16_239 : Cond.constant "CavershamShiftModel" 239 (99999) ∈ ALLW := wAll (wT7 218 rfl) rfl
set_option maxRecDepth 8000 in
theorem wC_X16_93 : Cond.classLink "CavershamShiftModel" 93 "CavershamShiftModel$Monitor" ∈ ALLW := wAll (wT7 219 rfl) rfl
set_option maxRecDepth 8000 in
theorem wNew_X12 : Cond.instantiable "CavershamShiftModel$Monitor" 4 ∈ ALLW := wAll (wT7 220 rfl) rfl
set_option maxRecDepth 8000 in
theorem wMN_X16_240 : Cond.methodLinkNest "CavershamShiftModel" 240 yX12_init "CavershamShiftModel" ∈ NSTW := wNst (wT7 221 rfl) rfl
set_option maxRecDepth 8000 in
theorem wIn_X12_init : Cond.instanceMethod yX12_init ∈ ALLW := wAll (wT7 222 rfl) rfl
set_option maxRecDepth 8000 in
theorem wY_X12_init : Cond.code yX12_init cX12_init 1 (none) ∈ ALLW := wAll (wT7 223 rfl) rfl
set_option maxRecDepth 8000 in
theorem wM_X12_1 : Cond.methodLink "CavershamShiftModel$Monitor" 1 objectInit ∈ ALLW := wAll (wT7 224 rfl) rfl
set_option maxRecDepth 8000 in
theorem wF_X12_7 : Cond.fieldLink "CavershamShiftModel$Monitor" 7 "CavershamShiftModel$Monitor" "skills" "[I" ∈ ALLW := wAll (wT7 225 rfl) rfl
set_option maxRecDepth 8000 in
theorem wF_X16_95 : Cond.fieldLink "CavershamShiftModel" 95 "CavershamShiftModel$Monitor" "skills" "[I" ∈ ALLW := wAll (wT7 226 rfl) rfl
set_option maxRecDepth 8000 in
theorem wF_X16_101 : Cond.fieldLink "CavershamShiftModel" 101 "CavershamShiftModel$Monitor" "weary" "I" ∈ ALLW := wAll (wT7 227 rfl) rfl
set_option maxRecDepth 8000 in
theorem wF_X16_211 : Cond.fieldLink "CavershamShiftModel" 211 "CavershamShiftModel$Monitor" "sat" "I" ∈ ALLW := wAll (wT7 228 rfl) rfl
set_option maxRecDepth 8000 in
theorem wF_X16_132 : Cond.fieldLink "CavershamShiftModel" 132 "CavershamShiftModel$Monitor" "reports" "I" ∈ ALLW := wAll (wT7 229 rfl) rfl
set_option maxRecDepth 8000 in
theorem wM_L_155 : Cond.methodLink "CavershamShiftLaw" 155 yX16_shift ∈ ALLW := wAll (wT7 239 rfl) rfl
set_option maxRecDepth 8000 in
theorem wIn_X16_shift : Cond.instanceMethod yX16_shift ∈ ALLW := wAll (wT8 0 rfl) rfl
set_option maxRecDepth 8000 in
theorem wSe_X16_X16_shift : Cond.selects "CavershamShiftModel" yX16_shift yX16_shift ∈ ALLW := wAll (wT8 1 rfl) rfl
set_option maxRecDepth 8000 in
theorem wY_X16_shift : Cond.code yX16_shift cX16_shift 6 (Option.some .int) ∈ ALLW := wAll (wT8 2 rfl) rfl
set_option maxRecDepth 8000 in
theorem wM_X16_241 : Cond.methodLink "CavershamShiftModel" 241 yX16_isMonitor ∈ ALLW := wAll (wT8 3 rfl) rfl
set_option maxRecDepth 8000 in
theorem wIn_X16_isMonitor : Cond.instanceMethod yX16_isMonitor ∈ ALLW := wAll (wT8 5 rfl) rfl
set_option maxRecDepth 8000 in
theorem wY_X16_isMonitor : Cond.code yX16_isMonitor cX16_isMonitor 2 (Option.some .boolean) ∈ ALLW := wAll (wT8 6 rfl) rfl
set_option maxRecDepth 8000 in
theorem wM_X16_208 : Cond.methodLink "CavershamShiftModel" 208 yX16_setOf ∈ ALLW := wAll (wT8 7 rfl) rfl
set_option maxRecDepth 8000 in
theorem wIn_X16_setOf : Cond.instanceMethod yX16_setOf ∈ ALLW := wAll (wT8 9 rfl) rfl
set_option maxRecDepth 8000 in
theorem wY_X16_setOf : Cond.code yX16_setOf cX16_setOf 4 (Option.some .int) ∈ ALLW := wAll (wT8 10 rfl) rfl
set_option maxRecDepth 8000 in
theorem wM_L_158 : Cond.methodLink "CavershamShiftLaw" 158 yX16_talk ∈ ALLW := wAll (wT8 11 rfl) rfl
set_option maxRecDepth 8000 in
theorem wIn_X16_talk : Cond.instanceMethod yX16_talk ∈ ALLW := wAll (wT8 12 rfl) rfl
set_option maxRecDepth 8000 in
theorem wSe_X16_X16_talk : Cond.selects "CavershamShiftModel" yX16_talk yX16_talk ∈ ALLW := wAll (wT8 13 rfl) rfl
set_option maxRecDepth 8000 in
theorem wY_X16_talk : Cond.code yX16_talk cX16_talk 9 (Option.some .int) ∈ ALLW := wAll (wT8 14 rfl) rfl
set_option maxRecDepth 8000 in
theorem wK_X16_244 : Cond.constant "CavershamShiftModel" 244 (65535) ∈ ALLW := wAll (wT8 15 rfl) rfl
set_option maxRecDepth 8000 in
theorem wC_X16_105 : Cond.classLink "CavershamShiftModel" 105 "CavershamShiftModel$Talk" ∈ ALLW := wAll (wT8 16 rfl) rfl
set_option maxRecDepth 8000 in
theorem wM_X16_61 : Cond.methodLink "CavershamShiftModel" 61 yX16_isOn ∈ ALLW := wAll (wT8 17 rfl) rfl
set_option maxRecDepth 8000 in
theorem wIn_X16_isOn : Cond.instanceMethod yX16_isOn ∈ ALLW := wAll (wT8 19 rfl) rfl
set_option maxRecDepth 8000 in
theorem wY_X16_isOn : Cond.code yX16_isOn cX16_isOn 3 (Option.some .boolean) ∈ ALLW := wAll (wT8 20 rfl) rfl
set_option maxRecDepth 8000 in
theorem wM_X16_57 : Cond.methodLink "CavershamShiftModel" 57 yX16_has ∈ ALLW := wAll (wT8 21 rfl) rfl
set_option maxRecDepth 8000 in
theorem wSt_X16_has : Cond.static yX16_has ∈ ALLW := wAll (wT8 22 rfl) rfl
set_option maxRecDepth 8000 in
theorem wY_X16_has : Cond.code yX16_has cX16_has 2 (Option.some .boolean) ∈ ALLW := wAll (wT8 23 rfl) rfl
set_option maxRecDepth 8000 in
theorem wNew_X15 : Cond.instantiable "CavershamShiftModel$Talk" 14 ∈ ALLW := wAll (wT8 24 rfl) rfl
set_option maxRecDepth 8000 in
theorem wM_X16_245 : Cond.methodLink "CavershamShiftModel" 245 yX15_init ∈ ALLW := wAll (wT8 25 rfl) rfl
set_option maxRecDepth 8000 in
theorem wIn_X15_init : Cond.instanceMethod yX15_init ∈ ALLW := wAll (wT8 26 rfl) rfl
set_option maxRecDepth 8000 in
theorem wY_X15_init : Cond.code yX15_init cX15_init 7 (none) ∈ ALLW := wAll (wT8 27 rfl) rfl
set_option maxRecDepth 8000 in
theorem wM_X15_3 : Cond.methodLink "CavershamShiftModel$Talk" 3 objectInit ∈ ALLW := wAll (wT8 28 rfl) rfl
set_option maxRecDepth 8000 in
theorem wF_X15_21 : Cond.fieldLink "CavershamShiftModel$Talk" 21 "CavershamShiftModel$Talk" "station" "I" ∈ ALLW := wAll (wT8 29 rfl) rfl
set_option maxRecDepth 8000 in
theorem wF_X16_104 : Cond.fieldLink "CavershamShiftModel" 104 "CavershamShiftModel$Talk" "station" "I" ∈ ALLW := wAll (wT8 30 rfl) rfl
set_option maxRecDepth 8000 in
theorem wF_X15_24 : Cond.fieldLink "CavershamShiftModel$Talk" 24 "CavershamShiftModel$Talk" "hour" "I" ∈ ALLW := wAll (wT8 31 rfl) rfl
set_option maxRecDepth 8000 in
theorem wF_X16_112 : Cond.fieldLink "CavershamShiftModel" 112 "CavershamShiftModel$Talk" "hour" "I" ∈ ALLW := wAll (wT8 32 rfl) rfl
set_option maxRecDepth 8000 in
theorem wF_X15_27 : Cond.fieldLink "CavershamShiftModel$Talk" 27 "CavershamShiftModel$Talk" "topic" "I" ∈ ALLW := wAll (wT8 33 rfl) rfl
set_option maxRecDepth 8000 in
theorem wF_X16_197 : Cond.fieldLink "CavershamShiftModel" 197 "CavershamShiftModel$Talk" "topic" "I" ∈ ALLW := wAll (wT8 34 rfl) rfl
set_option maxRecDepth 8000 in
theorem wF_X15_30 : Cond.fieldLink "CavershamShiftModel$Talk" 30 "CavershamShiftModel$Talk" "words" "I" ∈ ALLW := wAll (wT8 35 rfl) rfl
set_option maxRecDepth 8000 in
theorem wF_X16_273 : Cond.fieldLink "CavershamShiftModel" 273 "CavershamShiftModel$Talk" "words" "I" ∈ ALLW := wAll (wT8 36 rfl) rfl
set_option maxRecDepth 8000 in
theorem wF_X15_33 : Cond.fieldLink "CavershamShiftModel$Talk" 33 "CavershamShiftModel$Talk" "weight" "I" ∈ ALLW := wAll (wT8 37 rfl) rfl
set_option maxRecDepth 8000 in
theorem wF_X16_154 : Cond.fieldLink "CavershamShiftModel" 154 "CavershamShiftModel$Talk" "weight" "I" ∈ ALLW := wAll (wT8 38 rfl) rfl
set_option maxRecDepth 8000 in
theorem wF_X15_36 : Cond.fieldLink "CavershamShiftModel$Talk" 36 "CavershamShiftModel$Talk" "formulas" "I" ∈ ALLW := wAll (wT8 39 rfl) rfl
set_option maxRecDepth 8000 in
theorem wF_X16_276 : Cond.fieldLink "CavershamShiftModel" 276 "CavershamShiftModel$Talk" "formulas" "I" ∈ ALLW := wAll (wT8 40 rfl) rfl
set_option maxRecDepth 8000 in
theorem wF_X15_9 : Cond.fieldLink "CavershamShiftModel$Talk" 9 "CavershamShiftModel$Talk" "print" "I" ∈ ALLW := wAll (wT8 41 rfl) rfl
set_option maxRecDepth 8000 in
theorem wF_X16_249 : Cond.fieldLink "CavershamShiftModel" 249 "CavershamShiftModel$Talk" "print" "I" ∈ ALLW := wAll (wT8 42 rfl) rfl
set_option maxRecDepth 8000 in
theorem wF_X15_15 : Cond.fieldLink "CavershamShiftModel$Talk" 15 "CavershamShiftModel$Talk" "state" "I" ∈ ALLW := wAll (wT8 43 rfl) rfl
set_option maxRecDepth 8000 in
theorem wF_X16_144 : Cond.fieldLink "CavershamShiftModel" 144 "CavershamShiftModel$Talk" "state" "I" ∈ ALLW := wAll (wT8 44 rfl) rfl
set_option maxRecDepth 8000 in
theorem wF_X15_39 : Cond.fieldLink "CavershamShiftModel$Talk" 39 "CavershamShiftModel$Talk" "quality" "I" ∈ ALLW := wAll (wT8 45 rfl) rfl
set_option maxRecDepth 8000 in
theorem wF_X16_129 : Cond.fieldLink "CavershamShiftModel" 129 "CavershamShiftModel$Talk" "quality" "I" ∈ ALLW := wAll (wT8 46 rfl) rfl
set_option maxRecDepth 8000 in
theorem wF_X16_122 : Cond.fieldLink "CavershamShiftModel" 122 "CavershamShiftModel$Talk" "set" "I" ∈ ALLW := wAll (wT8 47 rfl) rfl
set_option maxRecDepth 8000 in
theorem wF_X16_126 : Cond.fieldLink "CavershamShiftModel" 126 "CavershamShiftModel$Talk" "monitor" "I" ∈ ALLW := wAll (wT8 48 rfl) rfl
set_option maxRecDepth 8000 in
theorem wF_X15_18 : Cond.fieldLink "CavershamShiftModel$Talk" 18 "CavershamShiftModel$Talk" "sentAt" "I" ∈ ALLW := wAll (wT8 49 rfl) rfl
set_option maxRecDepth 8000 in
theorem wF_X16_182 : Cond.fieldLink "CavershamShiftModel" 182 "CavershamShiftModel$Talk" "sentAt" "I" ∈ ALLW := wAll (wT8 50 rfl) rfl
set_option maxRecDepth 8000 in
theorem wF_X16_188 : Cond.fieldLink "CavershamShiftModel" 188 "CavershamShiftModel$Talk" "order" "I" ∈ ALLW := wAll (wT8 51 rfl) rfl
set_option maxRecDepth 8000 in
theorem wF_X16_161 : Cond.fieldLink "CavershamShiftModel" 161 "CavershamShiftModel$Talk" "correction" "I" ∈ ALLW := wAll (wT8 52 rfl) rfl
set_option maxRecDepth 8000 in
theorem wM_L_161 : Cond.methodLink "CavershamShiftLaw" 161 yX16_print ∈ ALLW := wAll (wT8 82 rfl) rfl
set_option maxRecDepth 8000 in
theorem wIn_X16_print : Cond.instanceMethod yX16_print ∈ ALLW := wAll (wT8 83 rfl) rfl
set_option maxRecDepth 8000 in
theorem wSe_X16_X16_print : Cond.selects "CavershamShiftModel" yX16_print yX16_print ∈ ALLW := wAll (wT8 84 rfl) rfl
set_option maxRecDepth 8000 in
theorem wY_X16_print : Cond.code yX16_print cX16_print 4 (Option.some .int) ∈ ALLW := wAll (wT8 85 rfl) rfl
set_option maxRecDepth 8000 in
theorem wM_X16_246 : Cond.methodLink "CavershamShiftModel" 246 yX16_isTalk ∈ ALLW := wAll (wT8 86 rfl) rfl
set_option maxRecDepth 8000 in
theorem wIn_X16_isTalk : Cond.instanceMethod yX16_isTalk ∈ ALLW := wAll (wT8 88 rfl) rfl
set_option maxRecDepth 8000 in
theorem wY_X16_isTalk : Cond.code yX16_isTalk cX16_isTalk 2 (Option.some .boolean) ∈ ALLW := wAll (wT8 89 rfl) rfl
set_option maxRecDepth 8000 in
theorem wM_X16_200 : Cond.methodLink "CavershamShiftModel" 200 yX16_enqueue ∈ ALLW := wAll (wT8 90 rfl) rfl
set_option maxRecDepth 8000 in
theorem wIn_X16_enqueue : Cond.instanceMethod yX16_enqueue ∈ ALLW := wAll (wT8 92 rfl) rfl
set_option maxRecDepth 8000 in
theorem wY_X16_enqueue : Cond.code yX16_enqueue cX16_enqueue 3 (none) ∈ ALLW := wAll (wT8 93 rfl) rfl
set_option maxRecDepth 8000 in
theorem wM_X16_157 : Cond.methodLink "CavershamShiftModel" 157 yX15_isWrong ∈ ALLW := wAll (wT8 94 rfl) rfl
set_option maxRecDepth 8000 in
theorem wIn_X15_isWrong : Cond.instanceMethod yX15_isWrong ∈ ALLW := wAll (wT8 95 rfl) rfl
set_option maxRecDepth 8000 in
theorem wSe_X15_X15_isWrong : Cond.selects "CavershamShiftModel$Talk" yX15_isWrong yX15_isWrong ∈ ALLW := wAll (wT8 96 rfl) rfl
set_option maxRecDepth 8000 in
theorem wY_X15_isWrong : Cond.code yX15_isWrong cX15_isWrong 1 (Option.some .boolean) ∈ ALLW := wAll (wT8 97 rfl) rfl
set_option maxRecDepth 8000 in
theorem wM_X15_62 : Cond.methodLink "CavershamShiftModel$Talk" 62 yX15_guessed ∈ ALLW := wAll (wT8 98 rfl) rfl
set_option maxRecDepth 8000 in
theorem wIn_X15_guessed : Cond.instanceMethod yX15_guessed ∈ ALLW := wAll (wT8 99 rfl) rfl
set_option maxRecDepth 8000 in
theorem wSe_X15_X15_guessed : Cond.selects "CavershamShiftModel$Talk" yX15_guessed yX15_guessed ∈ ALLW := wAll (wT8 100 rfl) rfl
set_option maxRecDepth 8000 in
theorem wY_X15_guessed : Cond.code yX15_guessed cX15_guessed 1 (Option.some .int) ∈ ALLW := wAll (wT8 101 rfl) rfl
set_option maxRecDepth 8000 in
theorem wMN_X15_55 : Cond.methodLinkNest "CavershamShiftModel$Talk" 55 yX16_has "CavershamShiftModel" ∈ NSTW := wNst (wT8 102 rfl) rfl
set_option maxRecDepth 8000 in
theorem wM_X15_65 : Cond.methodLink "CavershamShiftModel$Talk" 65 yX15_all ∈ ALLW := wAll (wT8 103 rfl) rfl
set_option maxRecDepth 8000 in
theorem wIn_X15_all : Cond.instanceMethod yX15_all ∈ ALLW := wAll (wT8 104 rfl) rfl
set_option maxRecDepth 8000 in
theorem wSe_X15_X15_all : Cond.selects "CavershamShiftModel$Talk" yX15_all yX15_all ∈ ALLW := wAll (wT8 105 rfl) rfl
set_option maxRecDepth 8000 in
theorem wY_X15_all : Cond.code yX15_all cX15_all 1 (Option.some .int) ∈ ALLW := wAll (wT8 106 rfl) rfl
set_option maxRecDepth 8000 in
theorem wM_X15_59 : Cond.methodLink "CavershamShiftModel$Talk" 59 yX15_heard ∈ ALLW := wAll (wT8 107 rfl) rfl
set_option maxRecDepth 8000 in
theorem wIn_X15_heard : Cond.instanceMethod yX15_heard ∈ ALLW := wAll (wT8 108 rfl) rfl
set_option maxRecDepth 8000 in
theorem wSe_X15_X15_heard : Cond.selects "CavershamShiftModel$Talk" yX15_heard yX15_heard ∈ ALLW := wAll (wT8 109 rfl) rfl
set_option maxRecDepth 8000 in
theorem wY_X15_heard : Cond.code yX15_heard cX15_heard 1 (Option.some .int) ∈ ALLW := wAll (wT8 110 rfl) rfl
set_option maxRecDepth 8000 in
theorem wM_X15_49 : Cond.methodLink "CavershamShiftModel$Talk" 49 yJ9_min_7cf53 ∈ ALLW := wAll (wT8 111 rfl) rfl
set_option maxRecDepth 8000 in
theorem wM_X16_164 : Cond.methodLink "CavershamShiftModel" 164 yJ6_valueOf_2dffe ∈ ALLW := wAll (wT8 112 rfl) rfl
set_option maxRecDepth 8000 in
theorem wSt_J6_valueOf_2dffe : Cond.static yJ6_valueOf_2dffe ∈ ALLW := wAll (wT8 113 rfl) rfl
set_option maxRecDepth 8000 in
theorem wY_J6_valueOf_2dffe : Cond.code yJ6_valueOf_2dffe cJ6_valueOf_2dffe 1 (Option.some (.object "java/lang/Integer")) ∈ ALLW := wAll (wT8 114 rfl) rfl
set_option maxRecDepth 8000 in
theorem wF_J6_191 : Cond.fieldLink "java/lang/Integer" 191 "java/lang/Integer$IntegerCache" "high" "I" ∈ ALLW := wAll (wT8 115 rfl) rfl
set_option maxRecDepth 8000 in
theorem wLS_Jxabbfe_high : Cond.laysStatic "java/lang/Integer$IntegerCache" "high" "I" ∈ lw_tbl := wT8 116 rfl
set_option maxRecDepth 8000 in
theorem wF_J6_195 : Cond.fieldLink "java/lang/Integer" 195 "java/lang/Integer$IntegerCache" "cache" "[Ljava/lang/Integer;" ∈ ALLW := wAll (wT8 117 rfl) rfl
set_option maxRecDepth 8000 in
theorem wLS_Jxabbfe_cache : Cond.laysStatic "java/lang/Integer$IntegerCache" "cache" "[Ljava/lang/Integer;" ∈ lw_tbl := wT8 118 rfl
set_option maxRecDepth 8000 in
theorem wNew_J6 : Cond.instantiable "java/lang/Integer" 1 ∈ ALLW := wAll (wT8 120 rfl) rfl
set_option maxRecDepth 8000 in
theorem wF_J6_205 : Cond.fieldLink "java/lang/Integer" 205 "java/lang/Integer" "value" "I" ∈ ALLW := wAll (wT8 128 rfl) rfl
set_option maxRecDepth 8000 in
theorem wM_X16_252 : Cond.methodLink "CavershamShiftModel" 252 yX15_isReported ∈ ALLW := wAll (wT8 132 rfl) rfl
set_option maxRecDepth 8000 in
theorem wIn_X15_isReported : Cond.instanceMethod yX15_isReported ∈ ALLW := wAll (wT8 133 rfl) rfl
set_option maxRecDepth 8000 in
theorem wSe_X15_X15_isReported : Cond.selects "CavershamShiftModel$Talk" yX15_isReported yX15_isReported ∈ ALLW := wAll (wT8 134 rfl) rfl
set_option maxRecDepth 8000 in
theorem wY_X15_isReported : Cond.code yX15_isReported cX15_isReported 1 (Option.some .boolean) ∈ ALLW := wAll (wT8 135 rfl) rfl
set_option maxRecDepth 8000 in
theorem wM_X16_255 : Cond.methodLink "CavershamShiftModel" 255 yX15_all ∈ ALLW := wAll (wT8 136 rfl) rfl
set_option maxRecDepth 8000 in
theorem wM_L_164 : Cond.methodLink "CavershamShiftLaw" 164 yX16_reader ∈ ALLW := wAll (wT8 137 rfl) rfl
set_option maxRecDepth 8000 in
theorem wIn_X16_reader : Cond.instanceMethod yX16_reader ∈ ALLW := wAll (wT8 138 rfl) rfl
set_option maxRecDepth 8000 in
theorem wSe_X16_X16_reader : Cond.selects "CavershamShiftModel" yX16_reader yX16_reader ∈ ALLW := wAll (wT8 139 rfl) rfl
set_option maxRecDepth 8000 in
theorem wY_X16_reader : Cond.code yX16_reader cX16_reader 4 (Option.some .int) ∈ ALLW := wAll (wT8 140 rfl) rfl
set_option maxRecDepth 8000 in
theorem wC_X16_177 : Cond.classLink "CavershamShiftModel" 177 "CavershamShiftModel$Reader" ∈ ALLW := wAll (wT8 141 rfl) rfl
set_option maxRecDepth 8000 in
theorem wNew_X13 : Cond.instantiable "CavershamShiftModel$Reader" 3 ∈ ALLW := wAll (wT8 142 rfl) rfl
set_option maxRecDepth 8000 in
theorem wMN_X16_258 : Cond.methodLinkNest "CavershamShiftModel" 258 yX13_init "CavershamShiftModel" ∈ NSTW := wNst (wT8 143 rfl) rfl
set_option maxRecDepth 8000 in
theorem wIn_X13_init : Cond.instanceMethod yX13_init ∈ ALLW := wAll (wT8 144 rfl) rfl
set_option maxRecDepth 8000 in
theorem wY_X13_init : Cond.code yX13_init cX13_init 1 (none) ∈ ALLW := wAll (wT8 145 rfl) rfl
set_option maxRecDepth 8000 in
theorem wM_X13_1 : Cond.methodLink "CavershamShiftModel$Reader" 1 objectInit ∈ ALLW := wAll (wT8 146 rfl) rfl
set_option maxRecDepth 8000 in
theorem wF_X16_191 : Cond.fieldLink "CavershamShiftModel" 191 "CavershamShiftModel$Reader" "lands" "I" ∈ ALLW := wAll (wT8 147 rfl) rfl
set_option maxRecDepth 8000 in
theorem wF_X16_194 : Cond.fieldLink "CavershamShiftModel" 194 "CavershamShiftModel$Reader" "topics" "I" ∈ ALLW := wAll (wT8 148 rfl) rfl
set_option maxRecDepth 8000 in
theorem wF_X13_7 : Cond.fieldLink "CavershamShiftModel$Reader" 7 "CavershamShiftModel$Reader" "got" "[I" ∈ ALLW := wAll (wT8 149 rfl) rfl
set_option maxRecDepth 8000 in
theorem wF_X16_179 : Cond.fieldLink "CavershamShiftModel" 179 "CavershamShiftModel$Reader" "got" "[I" ∈ ALLW := wAll (wT8 150 rfl) rfl
set_option maxRecDepth 8000 in
theorem wM_L_168 : Cond.methodLink "CavershamShiftLaw" 168 yX16_ask ∈ ALLW := wAll (wT8 158 rfl) rfl
set_option maxRecDepth 8000 in
theorem wIn_X16_ask : Cond.instanceMethod yX16_ask ∈ ALLW := wAll (wT8 159 rfl) rfl
set_option maxRecDepth 8000 in
theorem wSe_X16_X16_ask : Cond.selects "CavershamShiftModel" yX16_ask yX16_ask ∈ ALLW := wAll (wT8 160 rfl) rfl
set_option maxRecDepth 8000 in
theorem wY_X16_ask : Cond.code yX16_ask cX16_ask 6 (Option.some .int) ∈ ALLW := wAll (wT8 161 rfl) rfl
set_option maxRecDepth 8000 in
theorem wM_X16_259 : Cond.methodLink "CavershamShiftModel" 259 yX16_isReader ∈ ALLW := wAll (wT8 162 rfl) rfl
set_option maxRecDepth 8000 in
theorem wIn_X16_isReader : Cond.instanceMethod yX16_isReader ∈ ALLW := wAll (wT8 164 rfl) rfl
set_option maxRecDepth 8000 in
theorem wY_X16_isReader : Cond.code yX16_isReader cX16_isReader 2 (Option.some .boolean) ∈ ALLW := wAll (wT8 165 rfl) rfl
set_option maxRecDepth 8000 in
theorem wM_X16_141 : Cond.methodLink "CavershamShiftModel" 141 yX16_landOf ∈ ALLW := wAll (wT8 166 rfl) rfl
set_option maxRecDepth 8000 in
theorem wIn_X16_landOf : Cond.instanceMethod yX16_landOf ∈ ALLW := wAll (wT8 168 rfl) rfl
set_option maxRecDepth 8000 in
theorem wY_X16_landOf : Cond.code yX16_landOf cX16_landOf 2 (Option.some .int) ∈ ALLW := wAll (wT8 169 rfl) rfl
set_option maxRecDepth 8000 in
theorem wM_L_171 : Cond.methodLink "CavershamShiftLaw" 171 yX16_partner ∈ ALLW := wAll (wT8 170 rfl) rfl
set_option maxRecDepth 8000 in
theorem wIn_X16_partner : Cond.instanceMethod yX16_partner ∈ ALLW := wAll (wT8 171 rfl) rfl
set_option maxRecDepth 8000 in
theorem wSe_X16_X16_partner : Cond.selects "CavershamShiftModel" yX16_partner yX16_partner ∈ ALLW := wAll (wT8 172 rfl) rfl
set_option maxRecDepth 8000 in
theorem wY_X16_partner : Cond.code yX16_partner cX16_partner 3 (Option.some .int) ∈ ALLW := wAll (wT8 173 rfl) rfl
set_option maxRecDepth 8000 in
theorem wM_L_174 : Cond.methodLink "CavershamShiftLaw" 174 yX16_pass ∈ ALLW := wAll (wT8 174 rfl) rfl
set_option maxRecDepth 8000 in
theorem wIn_X16_pass : Cond.instanceMethod yX16_pass ∈ ALLW := wAll (wT8 175 rfl) rfl
set_option maxRecDepth 8000 in
theorem wSe_X16_X16_pass : Cond.selects "CavershamShiftModel" yX16_pass yX16_pass ∈ ALLW := wAll (wT8 176 rfl) rfl
set_option maxRecDepth 8000 in
theorem wY_X16_pass : Cond.code yX16_pass cX16_pass 3 (Option.some .int) ∈ ALLW := wAll (wT8 177 rfl) rfl
set_option maxRecDepth 8000 in
theorem wM_X16_262 : Cond.methodLink "CavershamShiftModel" 262 yX16_hour ∈ ALLW := wAll (wT8 178 rfl) rfl
set_option maxRecDepth 8000 in
theorem wIn_X16_hour : Cond.instanceMethod yX16_hour ∈ ALLW := wAll (wT8 180 rfl) rfl
set_option maxRecDepth 8000 in
theorem wY_X16_hour : Cond.code yX16_hour cX16_hour 4 (none) ∈ ALLW := wAll (wT8 181 rfl) rfl
set_option maxRecDepth 8000 in
theorem wM_X16_204 : Cond.methodLink "CavershamShiftModel" 204 yX16_record ∈ ALLW := wAll (wT8 182 rfl) rfl
set_option maxRecDepth 8000 in
theorem wIn_X16_record : Cond.instanceMethod yX16_record ∈ ALLW := wAll (wT8 184 rfl) rfl
set_option maxRecDepth 8000 in
theorem wY_X16_record : Cond.code yX16_record cX16_record 3 (none) ∈ ALLW := wAll (wT8 185 rfl) rfl
set_option maxRecDepth 8000 in
theorem wM_X16_118 : Cond.methodLink "CavershamShiftModel" 118 yX16_recorder ∈ ALLW := wAll (wT8 186 rfl) rfl
set_option maxRecDepth 8000 in
theorem wIn_X16_recorder : Cond.instanceMethod yX16_recorder ∈ ALLW := wAll (wT8 188 rfl) rfl
set_option maxRecDepth 8000 in
theorem wY_X16_recorder : Cond.code yX16_recorder cX16_recorder 5 (Option.some .int) ∈ ALLW := wAll (wT8 189 rfl) rfl
set_option maxRecDepth 8000 in
theorem wM_X16_115 : Cond.methodLink "CavershamShiftModel" 115 yX16_qualityNow ∈ ALLW := wAll (wT8 190 rfl) rfl
set_option maxRecDepth 8000 in
theorem wIn_X16_qualityNow : Cond.instanceMethod yX16_qualityNow ∈ ALLW := wAll (wT8 192 rfl) rfl
set_option maxRecDepth 8000 in
theorem wY_X16_qualityNow : Cond.code yX16_qualityNow cX16_qualityNow 6 (Option.some .int) ∈ ALLW := wAll (wT8 193 rfl) rfl
set_option maxRecDepth 8000 in
theorem wM_X16_85 : Cond.methodLink "CavershamShiftModel" 85 yX16_comesNow ∈ ALLW := wAll (wT8 194 rfl) rfl
set_option maxRecDepth 8000 in
theorem wIn_X16_comesNow : Cond.instanceMethod yX16_comesNow ∈ ALLW := wAll (wT8 196 rfl) rfl
set_option maxRecDepth 8000 in
theorem wY_X16_comesNow : Cond.code yX16_comesNow cX16_comesNow 7 (Option.some .int) ∈ ALLW := wAll (wT8 197 rfl) rfl
set_option maxRecDepth 8000 in
theorem wM_X16_79 : Cond.methodLink "CavershamShiftModel" 79 yJ9_abs_0f7a4 ∈ ALLW := wAll (wT8 198 rfl) rfl
set_option maxRecDepth 8000 in
theorem wM_X16_89 : Cond.methodLink "CavershamShiftModel" 89 yX16_hold ∈ ALLW := wAll (wT8 199 rfl) rfl
set_option maxRecDepth 8000 in
theorem wSt_X16_hold : Cond.static yX16_hold ∈ ALLW := wAll (wT8 200 rfl) rfl
set_option maxRecDepth 8000 in
theorem wY_X16_hold : Cond.code yX16_hold cX16_hold 3 (Option.some .int) ∈ ALLW := wAll (wT8 201 rfl) rfl
set_option maxRecDepth 8000 in
theorem wM_X16_135 : Cond.methodLink "CavershamShiftModel" 135 yX15_sort ∈ ALLW := wAll (wT8 202 rfl) rfl
set_option maxRecDepth 8000 in
theorem wIn_X15_sort : Cond.instanceMethod yX15_sort ∈ ALLW := wAll (wT8 203 rfl) rfl
set_option maxRecDepth 8000 in
theorem wSe_X15_X15_sort : Cond.selects "CavershamShiftModel$Talk" yX15_sort yX15_sort ∈ ALLW := wAll (wT8 204 rfl) rfl
set_option maxRecDepth 8000 in
theorem wY_X15_sort : Cond.code yX15_sort cX15_sort 1 (Option.some .int) ∈ ALLW := wAll (wT8 205 rfl) rfl
set_option maxRecDepth 8000 in
theorem wM_X16_147 : Cond.methodLink "CavershamShiftModel" 147 yX16_isStale ∈ ALLW := wAll (wT8 206 rfl) rfl
set_option maxRecDepth 8000 in
theorem wIn_X16_isStale : Cond.instanceMethod yX16_isStale ∈ ALLW := wAll (wT8 208 rfl) rfl
set_option maxRecDepth 8000 in
theorem wY_X16_isStale : Cond.code yX16_isStale cX16_isStale 2 (Option.some .boolean) ∈ ALLW := wAll (wT8 209 rfl) rfl
set_option maxRecDepth 8000 in
theorem wM_X16_214 : Cond.methodLink "CavershamShiftModel" 214 yX16_correct ∈ ALLW := wAll (wT8 210 rfl) rfl
set_option maxRecDepth 8000 in
theorem wIn_X16_correct : Cond.instanceMethod yX16_correct ∈ ALLW := wAll (wT8 212 rfl) rfl
set_option maxRecDepth 8000 in
theorem wY_X16_correct : Cond.code yX16_correct cX16_correct 5 (none) ∈ ALLW := wAll (wT8 213 rfl) rfl
set_option maxRecDepth 8000 in
theorem wC_X16_165 : Cond.classLink "CavershamShiftModel" 165 "java/lang/Integer" ∈ ALLW := wAll (wT8 214 rfl) rfl
set_option maxRecDepth 8000 in
theorem wM_X16_174 : Cond.methodLink "CavershamShiftModel" 174 yJ6_intValue_8abf5 ∈ ALLW := wAll (wT8 215 rfl) rfl
set_option maxRecDepth 8000 in
theorem wIn_J6_intValue_8abf5 : Cond.instanceMethod yJ6_intValue_8abf5 ∈ ALLW := wAll (wT8 216 rfl) rfl
set_option maxRecDepth 8000 in
theorem wSe_J6_J6_intValue_8abf5 : Cond.selects "java/lang/Integer" yJ6_intValue_8abf5 yJ6_intValue_8abf5 ∈ ALLW := wAll (wT8 217 rfl) rfl
set_option maxRecDepth 8000 in
theorem wY_J6_intValue_8abf5 : Cond.code yJ6_intValue_8abf5 cJ6_intValue_8abf5 1 (Option.some .int) ∈ ALLW := wAll (wT8 218 rfl) rfl
set_option maxRecDepth 8000 in
theorem wM_X16_217 : Cond.methodLink "CavershamShiftModel" 217 yX16_next ∈ ALLW := wAll (wT8 219 rfl) rfl
set_option maxRecDepth 8000 in
theorem wIn_X16_next : Cond.instanceMethod yX16_next ∈ ALLW := wAll (wT8 221 rfl) rfl
set_option maxRecDepth 8000 in
theorem wY_X16_next : Cond.code yX16_next cX16_next 6 (Option.some .int) ∈ ALLW := wAll (wT8 222 rfl) rfl
set_option maxRecDepth 8000 in
theorem wM_X16_151 : Cond.methodLink "CavershamShiftModel" 151 yX15_length ∈ ALLW := wAll (wT8 223 rfl) rfl
set_option maxRecDepth 8000 in
theorem wIn_X15_length : Cond.instanceMethod yX15_length ∈ ALLW := wAll (wT8 224 rfl) rfl
set_option maxRecDepth 8000 in
theorem wSe_X15_X15_length : Cond.selects "CavershamShiftModel$Talk" yX15_length yX15_length ∈ ALLW := wAll (wT8 225 rfl) rfl
set_option maxRecDepth 8000 in
theorem wY_X15_length : Cond.code yX15_length cX15_length 1 (Option.some .int) ∈ ALLW := wAll (wT8 226 rfl) rfl
set_option maxRecDepth 8000 in
theorem wM_X15_42 : Cond.methodLink "CavershamShiftModel$Talk" 42 yX15_sort ∈ ALLW := wAll (wT8 227 rfl) rfl
set_option maxRecDepth 8000 in
theorem wM_X15_46 : Cond.methodLink "CavershamShiftModel$Talk" 46 yX15_caught ∈ ALLW := wAll (wT8 228 rfl) rfl
set_option maxRecDepth 8000 in
theorem wIn_X15_caught : Cond.instanceMethod yX15_caught ∈ ALLW := wAll (wT8 229 rfl) rfl
set_option maxRecDepth 8000 in
theorem wSe_X15_X15_caught : Cond.selects "CavershamShiftModel$Talk" yX15_caught yX15_caught ∈ ALLW := wAll (wT8 230 rfl) rfl
set_option maxRecDepth 8000 in
theorem wY_X15_caught : Cond.code yX15_caught cX15_caught 1 (Option.some .int) ∈ ALLW := wAll (wT8 231 rfl) rfl
set_option maxRecDepth 8000 in
theorem wM_X16_221 : Cond.methodLink "CavershamShiftModel" 221 yX16_send ∈ ALLW := wAll (wT8 232 rfl) rfl
set_option maxRecDepth 8000 in
theorem wIn_X16_send : Cond.instanceMethod yX16_send ∈ ALLW := wAll (wT8 234 rfl) rfl
set_option maxRecDepth 8000 in
theorem wY_X16_send : Cond.code yX16_send cX16_send 4 (none) ∈ ALLW := wAll (wT8 235 rfl) rfl
set_option maxRecDepth 8000 in
theorem wA_boolean : Cond.arrayClass .boolean ∈ ALLW := wAll (wT8 236 rfl) rfl
set_option maxRecDepth 8000 in
theorem wM_L_179 : Cond.methodLink "CavershamShiftLaw" 179 yX16_call ∈ ALLW := wAll (wT8 237 rfl) rfl
set_option maxRecDepth 8000 in
theorem wIn_X16_call : Cond.instanceMethod yX16_call ∈ ALLW := wAll (wT8 238 rfl) rfl
set_option maxRecDepth 8000 in
theorem wSe_X16_X16_call : Cond.selects "CavershamShiftModel" yX16_call yX16_call ∈ ALLW := wAll (wT8 239 rfl) rfl
set_option maxRecDepth 8000 in
theorem wY_X16_call : Cond.code yX16_call cX16_call 1 (Option.some .int) ∈ ALLW := wAll (wT9 0 rfl) rfl
set_option maxRecDepth 8000 in
theorem wM_L_182 : Cond.methodLink "CavershamShiftLaw" 182 yX16_ofStation ∈ ALLW := wAll (wT9 1 rfl) rfl
set_option maxRecDepth 8000 in
theorem wIn_X16_ofStation : Cond.instanceMethod yX16_ofStation ∈ ALLW := wAll (wT9 2 rfl) rfl
set_option maxRecDepth 8000 in
theorem wSe_X16_X16_ofStation : Cond.selects "CavershamShiftModel" yX16_ofStation yX16_ofStation ∈ ALLW := wAll (wT9 3 rfl) rfl
set_option maxRecDepth 8000 in
theorem wY_X16_ofStation : Cond.code yX16_ofStation cX16_ofStation 3 (Option.some .int) ∈ ALLW := wAll (wT9 4 rfl) rfl
set_option maxRecDepth 8000 in
theorem wM_X16_267 : Cond.methodLink "CavershamShiftModel" 267 yX16_stationNow ∈ ALLW := wAll (wT9 5 rfl) rfl
set_option maxRecDepth 8000 in
theorem wIn_X16_stationNow : Cond.instanceMethod yX16_stationNow ∈ ALLW := wAll (wT9 7 rfl) rfl
set_option maxRecDepth 8000 in
theorem wY_X16_stationNow : Cond.code yX16_stationNow cX16_stationNow 8 (Option.some .int) ∈ ALLW := wAll (wT9 8 rfl) rfl
set_option maxRecDepth 8000 in
theorem wM_L_185 : Cond.methodLink "CavershamShiftLaw" 185 yX16_comes ∈ ALLW := wAll (wT9 9 rfl) rfl
set_option maxRecDepth 8000 in
theorem wIn_X16_comes : Cond.instanceMethod yX16_comes ∈ ALLW := wAll (wT9 10 rfl) rfl
set_option maxRecDepth 8000 in
theorem wSe_X16_X16_comes : Cond.selects "CavershamShiftModel" yX16_comes yX16_comes ∈ ALLW := wAll (wT9 11 rfl) rfl
set_option maxRecDepth 8000 in
theorem wY_X16_comes : Cond.code yX16_comes cX16_comes 3 (Option.some .int) ∈ ALLW := wAll (wT9 12 rfl) rfl
set_option maxRecDepth 8000 in
theorem wM_L_188 : Cond.methodLink "CavershamShiftLaw" 188 yX16_ofMonitor ∈ ALLW := wAll (wT9 13 rfl) rfl
set_option maxRecDepth 8000 in
theorem wIn_X16_ofMonitor : Cond.instanceMethod yX16_ofMonitor ∈ ALLW := wAll (wT9 14 rfl) rfl
set_option maxRecDepth 8000 in
theorem wSe_X16_X16_ofMonitor : Cond.selects "CavershamShiftModel" yX16_ofMonitor yX16_ofMonitor ∈ ALLW := wAll (wT9 15 rfl) rfl
set_option maxRecDepth 8000 in
theorem wY_X16_ofMonitor : Cond.code yX16_ofMonitor cX16_ofMonitor 3 (Option.some .int) ∈ ALLW := wAll (wT9 16 rfl) rfl
set_option maxRecDepth 8000 in
theorem wM_X16_270 : Cond.methodLink "CavershamShiftModel" 270 yX16_monitorNow ∈ ALLW := wAll (wT9 17 rfl) rfl
set_option maxRecDepth 8000 in
theorem wIn_X16_monitorNow : Cond.instanceMethod yX16_monitorNow ∈ ALLW := wAll (wT9 19 rfl) rfl
set_option maxRecDepth 8000 in
theorem wY_X16_monitorNow : Cond.code yX16_monitorNow cX16_monitorNow 4 (Option.some .int) ∈ ALLW := wAll (wT9 20 rfl) rfl
set_option maxRecDepth 8000 in
theorem wM_L_192 : Cond.methodLink "CavershamShiftLaw" 192 yX16_sits ∈ ALLW := wAll (wT9 21 rfl) rfl
set_option maxRecDepth 8000 in
theorem wIn_X16_sits : Cond.instanceMethod yX16_sits ∈ ALLW := wAll (wT9 22 rfl) rfl
set_option maxRecDepth 8000 in
theorem wSe_X16_X16_sits : Cond.selects "CavershamShiftModel" yX16_sits yX16_sits ∈ ALLW := wAll (wT9 23 rfl) rfl
set_option maxRecDepth 8000 in
theorem wY_X16_sits : Cond.code yX16_sits cX16_sits 4 (Option.some .int) ∈ ALLW := wAll (wT9 24 rfl) rfl
set_option maxRecDepth 8000 in
theorem wM_L_195 : Cond.methodLink "CavershamShiftLaw" 195 yX16_quality ∈ ALLW := wAll (wT9 25 rfl) rfl
set_option maxRecDepth 8000 in
theorem wIn_X16_quality : Cond.instanceMethod yX16_quality ∈ ALLW := wAll (wT9 26 rfl) rfl
set_option maxRecDepth 8000 in
theorem wSe_X16_X16_quality : Cond.selects "CavershamShiftModel" yX16_quality yX16_quality ∈ ALLW := wAll (wT9 27 rfl) rfl
set_option maxRecDepth 8000 in
theorem wY_X16_quality : Cond.code yX16_quality cX16_quality 4 (Option.some .int) ∈ ALLW := wAll (wT9 28 rfl) rfl
set_option maxRecDepth 8000 in
theorem wM_L_198 : Cond.methodLink "CavershamShiftLaw" 198 yX16_ofTalk ∈ ALLW := wAll (wT9 29 rfl) rfl
set_option maxRecDepth 8000 in
theorem wIn_X16_ofTalk : Cond.instanceMethod yX16_ofTalk ∈ ALLW := wAll (wT9 30 rfl) rfl
set_option maxRecDepth 8000 in
theorem wSe_X16_X16_ofTalk : Cond.selects "CavershamShiftModel" yX16_ofTalk yX16_ofTalk ∈ ALLW := wAll (wT9 31 rfl) rfl
set_option maxRecDepth 8000 in
theorem wY_X16_ofTalk : Cond.code yX16_ofTalk cX16_ofTalk 3 (Option.some .int) ∈ ALLW := wAll (wT9 32 rfl) rfl
set_option maxRecDepth 8000 in
theorem wM_X16_279 : Cond.methodLink "CavershamShiftModel" 279 yX16_talkNow ∈ ALLW := wAll (wT9 33 rfl) rfl
set_option maxRecDepth 8000 in
theorem wIn_X16_talkNow : Cond.instanceMethod yX16_talkNow ∈ ALLW := wAll (wT9 35 rfl) rfl
set_option maxRecDepth 8000 in
theorem wY_X16_talkNow : Cond.code yX16_talkNow cX16_talkNow 5 (Option.some .int) ∈ ALLW := wAll (wT9 36 rfl) rfl
set_option maxRecDepth 8000 in
theorem wM_L_201 : Cond.methodLink "CavershamShiftLaw" 201 yX16_ofReport ∈ ALLW := wAll (wT9 37 rfl) rfl
set_option maxRecDepth 8000 in
theorem wIn_X16_ofReport : Cond.instanceMethod yX16_ofReport ∈ ALLW := wAll (wT9 38 rfl) rfl
set_option maxRecDepth 8000 in
theorem wSe_X16_X16_ofReport : Cond.selects "CavershamShiftModel" yX16_ofReport yX16_ofReport ∈ ALLW := wAll (wT9 39 rfl) rfl
set_option maxRecDepth 8000 in
theorem wY_X16_ofReport : Cond.code yX16_ofReport cX16_ofReport 3 (Option.some .int) ∈ ALLW := wAll (wT9 40 rfl) rfl
set_option maxRecDepth 8000 in
theorem wM_X16_290 : Cond.methodLink "CavershamShiftModel" 290 yX16_reportNow ∈ ALLW := wAll (wT9 41 rfl) rfl
set_option maxRecDepth 8000 in
theorem wIn_X16_reportNow : Cond.instanceMethod yX16_reportNow ∈ ALLW := wAll (wT9 43 rfl) rfl
set_option maxRecDepth 8000 in
theorem wY_X16_reportNow : Cond.code yX16_reportNow cX16_reportNow 5 (Option.some .int) ∈ ALLW := wAll (wT9 44 rfl) rfl
set_option maxRecDepth 8000 in
theorem wM_X16_282 : Cond.methodLink "CavershamShiftModel" 282 yX15_caught ∈ ALLW := wAll (wT9 45 rfl) rfl
set_option maxRecDepth 8000 in
theorem wM_X16_285 : Cond.methodLink "CavershamShiftModel" 285 yX15_heard ∈ ALLW := wAll (wT9 46 rfl) rfl
set_option maxRecDepth 8000 in
theorem wM_X16_287 : Cond.methodLink "CavershamShiftModel" 287 yX15_guessed ∈ ALLW := wAll (wT9 47 rfl) rfl
set_option maxRecDepth 8000 in
theorem wM_L_204 : Cond.methodLink "CavershamShiftLaw" 204 yX16_got ∈ ALLW := wAll (wT9 48 rfl) rfl
set_option maxRecDepth 8000 in
theorem wIn_X16_got : Cond.instanceMethod yX16_got ∈ ALLW := wAll (wT9 49 rfl) rfl
set_option maxRecDepth 8000 in
theorem wSe_X16_X16_got : Cond.selects "CavershamShiftModel" yX16_got yX16_got ∈ ALLW := wAll (wT9 50 rfl) rfl
set_option maxRecDepth 8000 in
theorem wY_X16_got : Cond.code yX16_got cX16_got 3 (Option.some .int) ∈ ALLW := wAll (wT9 51 rfl) rfl
set_option maxRecDepth 8000 in
theorem wM_L_207 : Cond.methodLink "CavershamShiftLaw" 207 yX16_ofReader ∈ ALLW := wAll (wT9 52 rfl) rfl
set_option maxRecDepth 8000 in
theorem wIn_X16_ofReader : Cond.instanceMethod yX16_ofReader ∈ ALLW := wAll (wT9 53 rfl) rfl
set_option maxRecDepth 8000 in
theorem wSe_X16_X16_ofReader : Cond.selects "CavershamShiftModel" yX16_ofReader yX16_ofReader ∈ ALLW := wAll (wT9 54 rfl) rfl
set_option maxRecDepth 8000 in
theorem wY_X16_ofReader : Cond.code yX16_ofReader cX16_ofReader 3 (Option.some .int) ∈ ALLW := wAll (wT9 55 rfl) rfl
set_option maxRecDepth 8000 in
theorem wM_X16_293 : Cond.methodLink "CavershamShiftModel" 293 yX16_readerNow ∈ ALLW := wAll (wT9 56 rfl) rfl
set_option maxRecDepth 8000 in
theorem wIn_X16_readerNow : Cond.instanceMethod yX16_readerNow ∈ ALLW := wAll (wT9 58 rfl) rfl
set_option maxRecDepth 8000 in
theorem wY_X16_readerNow : Cond.code yX16_readerNow cX16_readerNow 8 (Option.some .int) ∈ ALLW := wAll (wT9 59 rfl) rfl
set_option maxRecDepth 8000 in
theorem wM_L_210 : Cond.methodLink "CavershamShiftLaw" 210 yX16_used ∈ ALLW := wAll (wT9 60 rfl) rfl
set_option maxRecDepth 8000 in
theorem wIn_X16_used : Cond.instanceMethod yX16_used ∈ ALLW := wAll (wT9 61 rfl) rfl
set_option maxRecDepth 8000 in
theorem wSe_X16_X16_used : Cond.selects "CavershamShiftModel" yX16_used yX16_used ∈ ALLW := wAll (wT9 62 rfl) rfl
set_option maxRecDepth 8000 in
theorem wY_X16_used : Cond.code yX16_used cX16_used 5 (Option.some .int) ∈ ALLW := wAll (wT9 63 rfl) rfl
set_option maxRecDepth 8000 in
theorem wM_X16_296 : Cond.methodLink "CavershamShiftModel" 296 yX16_usedNow ∈ ALLW := wAll (wT9 64 rfl) rfl
set_option maxRecDepth 8000 in
theorem wIn_X16_usedNow : Cond.instanceMethod yX16_usedNow ∈ ALLW := wAll (wT9 66 rfl) rfl
set_option maxRecDepth 8000 in
theorem wY_X16_usedNow : Cond.code yX16_usedNow cX16_usedNow 8 (Option.some .int) ∈ ALLW := wAll (wT9 67 rfl) rfl
set_option maxRecDepth 8000 in
theorem wM_L_213 : Cond.methodLink "CavershamShiftLaw" 213 yX16_gone ∈ ALLW := wAll (wT9 68 rfl) rfl
set_option maxRecDepth 8000 in
theorem wIn_X16_gone : Cond.instanceMethod yX16_gone ∈ ALLW := wAll (wT9 69 rfl) rfl
set_option maxRecDepth 8000 in
theorem wSe_X16_X16_gone : Cond.selects "CavershamShiftModel" yX16_gone yX16_gone ∈ ALLW := wAll (wT9 70 rfl) rfl
set_option maxRecDepth 8000 in
theorem wY_X16_gone : Cond.code yX16_gone cX16_gone 2 (Option.some .int) ∈ ALLW := wAll (wT9 71 rfl) rfl
set_option maxRecDepth 8000 in
theorem wM_X16_300 : Cond.methodLink "CavershamShiftModel" 300 yX16_goneNow ∈ ALLW := wAll (wT9 72 rfl) rfl
set_option maxRecDepth 8000 in
theorem wIn_X16_goneNow : Cond.instanceMethod yX16_goneNow ∈ ALLW := wAll (wT9 74 rfl) rfl
set_option maxRecDepth 8000 in
theorem wY_X16_goneNow : Cond.code yX16_goneNow cX16_goneNow 5 (Option.some .int) ∈ ALLW := wAll (wT9 75 rfl) rfl
set_option maxRecDepth 8000 in
theorem wM_L_216 : Cond.methodLink "CavershamShiftLaw" 216 yX16_first ∈ ALLW := wAll (wT9 76 rfl) rfl
set_option maxRecDepth 8000 in
theorem wIn_X16_first : Cond.instanceMethod yX16_first ∈ ALLW := wAll (wT9 77 rfl) rfl
set_option maxRecDepth 8000 in
theorem wSe_X16_X16_first : Cond.selects "CavershamShiftModel" yX16_first yX16_first ∈ ALLW := wAll (wT9 78 rfl) rfl
set_option maxRecDepth 8000 in
theorem wY_X16_first : Cond.code yX16_first cX16_first 2 (Option.some .int) ∈ ALLW := wAll (wT9 79 rfl) rfl
set_option maxRecDepth 8000 in
theorem wM_X16_303 : Cond.methodLink "CavershamShiftModel" 303 yX16_firstNow ∈ ALLW := wAll (wT9 80 rfl) rfl
set_option maxRecDepth 8000 in
theorem wIn_X16_firstNow : Cond.instanceMethod yX16_firstNow ∈ ALLW := wAll (wT9 82 rfl) rfl
set_option maxRecDepth 8000 in
theorem wY_X16_firstNow : Cond.code yX16_firstNow cX16_firstNow 4 (Option.some .int) ∈ ALLW := wAll (wT9 83 rfl) rfl
set_option maxRecDepth 8000 in
theorem wM_L_219 : Cond.methodLink "CavershamShiftLaw" 219 yX16_clarity ∈ ALLW := wAll (wT9 84 rfl) rfl
set_option maxRecDepth 8000 in
theorem wIn_X16_clarity : Cond.instanceMethod yX16_clarity ∈ ALLW := wAll (wT9 85 rfl) rfl
set_option maxRecDepth 8000 in
theorem wSe_X16_X16_clarity : Cond.selects "CavershamShiftModel" yX16_clarity yX16_clarity ∈ ALLW := wAll (wT9 86 rfl) rfl
set_option maxRecDepth 8000 in
theorem wY_X16_clarity : Cond.code yX16_clarity cX16_clarity 2 (Option.some .double) ∈ ALLW := wAll (wT9 87 rfl) rfl
set_option maxRecDepth 8000 in
theorem wM_X16_306 : Cond.methodLink "CavershamShiftModel" 306 yX16_clarityNow ∈ ALLW := wAll (wT9 88 rfl) rfl
set_option maxRecDepth 8000 in
theorem wIn_X16_clarityNow : Cond.instanceMethod yX16_clarityNow ∈ ALLW := wAll (wT9 90 rfl) rfl
set_option maxRecDepth 8000 in
theorem wY_X16_clarityNow : Cond.code yX16_clarityNow cX16_clarityNow 5 (Option.some .double) ∈ ALLW := wAll (wT9 91 rfl) rfl
set_option maxRecDepth 8000 in
theorem wM_L_222 : Cond.methodLink "CavershamShiftLaw" 222 yX16_desk ∈ ALLW := wAll (wT9 92 rfl) rfl
set_option maxRecDepth 8000 in
theorem wIn_X16_desk : Cond.instanceMethod yX16_desk ∈ ALLW := wAll (wT9 93 rfl) rfl
set_option maxRecDepth 8000 in
theorem wSe_X16_X16_desk : Cond.selects "CavershamShiftModel" yX16_desk yX16_desk ∈ ALLW := wAll (wT9 94 rfl) rfl
set_option maxRecDepth 8000 in
theorem wY_X16_desk : Cond.code yX16_desk cX16_desk 2 (Option.some .int) ∈ ALLW := wAll (wT9 95 rfl) rfl
set_option maxRecDepth 8000 in
theorem wM_X16_310 : Cond.methodLink "CavershamShiftModel" 310 yX16_deskNow ∈ ALLW := wAll (wT9 96 rfl) rfl
set_option maxRecDepth 8000 in
theorem wIn_X16_deskNow : Cond.instanceMethod yX16_deskNow ∈ ALLW := wAll (wT9 98 rfl) rfl
set_option maxRecDepth 8000 in
theorem wY_X16_deskNow : Cond.code yX16_deskNow cX16_deskNow 6 (Option.some .int) ∈ ALLW := wAll (wT9 99 rfl) rfl
set_option maxRecDepth 8000 in
theorem wM_L_225 : Cond.methodLink "CavershamShiftLaw" 225 yX16_tell ∈ ALLW := wAll (wT9 100 rfl) rfl
set_option maxRecDepth 8000 in
theorem wIn_X16_tell : Cond.instanceMethod yX16_tell ∈ ALLW := wAll (wT9 101 rfl) rfl
set_option maxRecDepth 8000 in
theorem wSe_X16_X16_tell : Cond.selects "CavershamShiftModel" yX16_tell yX16_tell ∈ ALLW := wAll (wT9 102 rfl) rfl
set_option maxRecDepth 8000 in
theorem wY_X16_tell : Cond.code yX16_tell cX16_tell 5 (Option.some (.object "java/lang/String")) ∈ ALLW := wAll (wT9 103 rfl) rfl
set_option maxRecDepth 8000 in
theorem wC_X16_315 : Cond.classLink "CavershamShiftModel" 315 "java/lang/String" ∈ ALLW := wAll (wT9 105 rfl) rfl
set_option maxRecDepth 8000 in
theorem wAO_java_lang_String : Cond.arrayOver (.object "java/lang/String") ∈ lw_tbl := wT9 106 rfl
set_option maxRecDepth 8000 in
theorem wC_X16_329 : Cond.classLink "CavershamShiftModel" 329 "java/lang/StringBuilder" ∈ ALLW := wAll (wT9 113 rfl) rfl
set_option maxRecDepth 8000 in
theorem wM_X16_331 : Cond.methodLink "CavershamShiftModel" 331 yJ4_init_da8c8 ∈ ALLW := wAll (wT9 114 rfl) rfl
set_option maxRecDepth 8000 in
theorem wM_X16_332 : Cond.methodLink "CavershamShiftModel" 332 yJ4_append_15ec4 ∈ ALLW := wAll (wT9 115 rfl) rfl
set_option maxRecDepth 8000 in
theorem wM_X16_342 : Cond.methodLink "CavershamShiftModel" 342 yJ4_toString_0e30d ∈ ALLW := wAll (wT9 119 rfl) rfl
set_option maxRecDepth 8000 in
theorem wM_X16_346 : Cond.methodLink "CavershamShiftModel" 346 yJ4_append_bf812 ∈ ALLW := wAll (wT9 120 rfl) rfl
set_option maxRecDepth 8000 in
theorem wM_L_228 : Cond.methodLink "CavershamShiftLaw" 228 yX16_best ∈ ALLW := wAll (wT9 124 rfl) rfl
set_option maxRecDepth 8000 in
theorem wIn_X16_best : Cond.instanceMethod yX16_best ∈ ALLW := wAll (wT9 125 rfl) rfl
set_option maxRecDepth 8000 in
theorem wSe_X16_X16_best : Cond.selects "CavershamShiftModel" yX16_best yX16_best ∈ ALLW := wAll (wT9 126 rfl) rfl
set_option maxRecDepth 8000 in
theorem wY_X16_best : Cond.code yX16_best cX16_best 2 (Option.some .int) ∈ ALLW := wAll (wT9 127 rfl) rfl
set_option maxRecDepth 8000 in
theorem wM_X16_363 : Cond.methodLink "CavershamShiftModel" 363 yX16_bestNow ∈ ALLW := wAll (wT9 128 rfl) rfl
set_option maxRecDepth 8000 in
theorem wIn_X16_bestNow : Cond.instanceMethod yX16_bestNow ∈ ALLW := wAll (wT9 130 rfl) rfl
set_option maxRecDepth 8000 in
theorem wY_X16_bestNow : Cond.code yX16_bestNow cX16_bestNow 10 (Option.some (.array .int)) ∈ ALLW := wAll (wT9 131 rfl) rfl
set_option maxRecDepth 8000 in
theorem wM_X16_355 : Cond.methodLink "CavershamShiftModel" 355 yX16_meet ∈ ALLW := wAll (wT9 132 rfl) rfl
set_option maxRecDepth 8000 in
theorem wSt_X16_meet : Cond.static yX16_meet ∈ ALLW := wAll (wT9 133 rfl) rfl
set_option maxRecDepth 8000 in
theorem wY_X16_meet : Cond.code yX16_meet cX16_meet 4 (Option.some .boolean) ∈ ALLW := wAll (wT9 134 rfl) rfl
set_option maxRecDepth 8000 in
theorem wM_X16_359 : Cond.methodLink "CavershamShiftModel" 359 yX16_put ∈ ALLW := wAll (wT9 135 rfl) rfl
set_option maxRecDepth 8000 in
theorem wSt_X16_put : Cond.static yX16_put ∈ ALLW := wAll (wT9 136 rfl) rfl
set_option maxRecDepth 8000 in
theorem wY_X16_put : Cond.code yX16_put cX16_put 5 (none) ∈ ALLW := wAll (wT9 137 rfl) rfl
set_option maxRecDepth 8000 in
theorem wM_L_231 : Cond.methodLink "CavershamShiftLaw" 231 yX16_bestAt ∈ ALLW := wAll (wT9 138 rfl) rfl
set_option maxRecDepth 8000 in
theorem wIn_X16_bestAt : Cond.instanceMethod yX16_bestAt ∈ ALLW := wAll (wT9 139 rfl) rfl
set_option maxRecDepth 8000 in
theorem wSe_X16_X16_bestAt : Cond.selects "CavershamShiftModel" yX16_bestAt yX16_bestAt ∈ ALLW := wAll (wT9 140 rfl) rfl
set_option maxRecDepth 8000 in
theorem wY_X16_bestAt : Cond.code yX16_bestAt cX16_bestAt 4 (Option.some .int) ∈ ALLW := wAll (wT9 141 rfl) rfl
set_option maxRecDepth 8000 in
theorem wM_L_237 : Cond.methodLink "CavershamShiftLaw" 237 yX16_wouldHear ∈ ALLW := wAll (wT9 142 rfl) rfl
set_option maxRecDepth 8000 in
theorem wIn_X16_wouldHear : Cond.instanceMethod yX16_wouldHear ∈ ALLW := wAll (wT9 143 rfl) rfl
set_option maxRecDepth 8000 in
theorem wSe_X16_X16_wouldHear : Cond.selects "CavershamShiftModel" yX16_wouldHear yX16_wouldHear ∈ ALLW := wAll (wT9 144 rfl) rfl
set_option maxRecDepth 8000 in
theorem wY_X16_wouldHear : Cond.code yX16_wouldHear cX16_wouldHear 4 (Option.some .int) ∈ ALLW := wAll (wT9 145 rfl) rfl
set_option maxRecDepth 8000 in
theorem wM_L_241 : Cond.methodLink "CavershamShiftLaw" 241 yX16_wouldSend ∈ ALLW := wAll (wT9 146 rfl) rfl
set_option maxRecDepth 8000 in
theorem wIn_X16_wouldSend : Cond.instanceMethod yX16_wouldSend ∈ ALLW := wAll (wT9 147 rfl) rfl
set_option maxRecDepth 8000 in
theorem wSe_X16_X16_wouldSend : Cond.selects "CavershamShiftModel" yX16_wouldSend yX16_wouldSend ∈ ALLW := wAll (wT9 148 rfl) rfl
set_option maxRecDepth 8000 in
theorem wY_X16_wouldSend : Cond.code yX16_wouldSend cX16_wouldSend 1 (Option.some .int) ∈ ALLW := wAll (wT9 149 rfl) rfl
set_option maxRecDepth 8000 in
theorem wM_X16_370 : Cond.methodLink "CavershamShiftModel" 370 yX16_wouldSendNow ∈ ALLW := wAll (wT9 150 rfl) rfl
set_option maxRecDepth 8000 in
theorem wIn_X16_wouldSendNow : Cond.instanceMethod yX16_wouldSendNow ∈ ALLW := wAll (wT9 152 rfl) rfl
set_option maxRecDepth 8000 in
theorem wY_X16_wouldSendNow : Cond.code yX16_wouldSendNow cX16_wouldSendNow 5 (Option.some .int) ∈ ALLW := wAll (wT9 153 rfl) rfl
set_option maxRecDepth 8000 in
theorem wM_X16_367 : Cond.methodLink "CavershamShiftModel" 367 yJ9_min_7cf53 ∈ ALLW := wAll (wT9 154 rfl) rfl
set_option maxRecDepth 8000 in
theorem wM_L_246 : Cond.methodLink "CavershamShiftLaw" 246 yX16_isSound ∈ ALLW := wAll (wT9 155 rfl) rfl
set_option maxRecDepth 8000 in
theorem wIn_X16_isSound : Cond.instanceMethod yX16_isSound ∈ ALLW := wAll (wT9 156 rfl) rfl
set_option maxRecDepth 8000 in
theorem wSe_X16_X16_isSound : Cond.selects "CavershamShiftModel" yX16_isSound yX16_isSound ∈ ALLW := wAll (wT9 157 rfl) rfl
set_option maxRecDepth 8000 in
theorem wY_X16_isSound : Cond.code yX16_isSound cX16_isSound 1 (Option.some .boolean) ∈ ALLW := wAll (wT9 158 rfl) rfl
set_option maxRecDepth 8000 in
theorem wM_X16_373 : Cond.methodLink "CavershamShiftModel" 373 yX16_isSoundNow ∈ ALLW := wAll (wT9 159 rfl) rfl
set_option maxRecDepth 8000 in
theorem wIn_X16_isSoundNow : Cond.instanceMethod yX16_isSoundNow ∈ ALLW := wAll (wT9 161 rfl) rfl
set_option maxRecDepth 8000 in
theorem wY_X16_isSoundNow : Cond.code yX16_isSoundNow cX16_isSoundNow 4 (Option.some .boolean) ∈ ALLW := wAll (wT9 162 rfl) rfl
set_option maxRecDepth 8000 in
theorem wM_L_251 : Cond.methodLink "CavershamShiftLaw" 251 yX16_digest ∈ ALLW := wAll (wT9 163 rfl) rfl
set_option maxRecDepth 8000 in
theorem wIn_X16_digest : Cond.instanceMethod yX16_digest ∈ ALLW := wAll (wT9 164 rfl) rfl
set_option maxRecDepth 8000 in
theorem wSe_X16_X16_digest : Cond.selects "CavershamShiftModel" yX16_digest yX16_digest ∈ ALLW := wAll (wT9 165 rfl) rfl
set_option maxRecDepth 8000 in
theorem wY_X16_digest : Cond.code yX16_digest cX16_digest 6 (Option.some .long) ∈ ALLW := wAll (wT9 166 rfl) rfl
set_option maxRecDepth 8000 in
theorem wK_X16_376 : Cond.constantLong "CavershamShiftModel" 376 (58269 : Int64) ∈ ALLW := wAll (wT9 167 rfl) rfl
set_option maxRecDepth 8000 in
theorem wK_X16_378 : Cond.constantLong "CavershamShiftModel" 378 (31 : Int64) ∈ ALLW := wAll (wT9 168 rfl) rfl
set_option maxRecDepth 8000 in
theorem wK_X16_380 : Cond.constantDouble "CavershamShiftModel" 380 (4634204016564240384 : UInt64) ∈ ALLW := wAll (wT9 169 rfl) rfl
set_option maxRecDepth 8000 in
theorem wZ_2091 : Cond.sameMethod "java/lang/AbstractStringBuilder" "java/lang/AbstractStringBuilder" "append" "(I)Ljava/lang/AbstractStringBuilder;" ∈ ALLW := wAll (wT9 171 rfl) rfl
set_option maxRecDepth 8000 in
theorem wZ_2092 : Cond.sameMethod "java/lang/AbstractStringBuilder" "java/lang/AbstractStringBuilder" "ensureCapacityInternal" "(I)V" ∈ ALLW := wAll (wT9 172 rfl) rfl
set_option maxRecDepth 8000 in
theorem wZ_2093 : Cond.sameMethod "java/lang/AbstractStringBuilder" "java/lang/AbstractStringBuilder" "newCapacity" "(I)I" ∈ ALLW := wAll (wT9 173 rfl) rfl
set_option maxRecDepth 8000 in
theorem wZ_2094 : Cond.sameMethod "java/lang/AbstractStringBuilder" "java/lang/AbstractStringBuilder" "append" "(Ljava/lang/String;)Ljava/lang/AbstractStringBuilder;" ∈ ALLW := wAll (wT9 174 rfl) rfl
set_option maxRecDepth 8000 in
theorem wZ_2096 : Cond.sameMethod "java/lang/AbstractStringBuilder" "java/lang/AbstractStringBuilder" "putStringAt" "(ILjava/lang/String;)V" ∈ ALLW := wAll (wT9 176 rfl) rfl
set_option maxRecDepth 8000 in
theorem wZ_2097 : Cond.sameMethod "java/lang/AbstractStringBuilder" "java/lang/AbstractStringBuilder" "inflateIfNeededFor" "(Ljava/lang/String;)V" ∈ ALLW := wAll (wT9 177 rfl) rfl
set_option maxRecDepth 8000 in
theorem wCa_J6_java_lang_Object : Cond.castable "java/lang/Integer" "java/lang/Object" ∈ NSTW := wNst (wT9 180 rfl) rfl
set_option maxRecDepth 8000 in
theorem wSe__Ljava_lang_Object__java_lang_Object_getClass___Ljava_lang_Class_ : Cond.selects "[Ljava/lang/Object;" ⟨"java/lang/Object", "getClass", "()Ljava/lang/Class;"⟩ ⟨"java/lang/Object", "getClass", "()Ljava/lang/Class;"⟩ ∈ ALLW := wAll (wT9 205 rfl) rfl
set_option maxRecDepth 8000 in
theorem wDe_java_lang_Object_getClass___Ljava_lang_Class_ : Cond.declares ⟨"java/lang/Object", "getClass", "()Ljava/lang/Class;"⟩ ∈ NSTW := wNst (wT9 206 rfl) rfl
set_option maxRecDepth 8000 in
theorem wCa__I_java_lang_Object : Cond.castable "[I" "java/lang/Object" ∈ NSTW := wNst (wT9 207 rfl) rfl
set_option maxRecDepth 8000 in
theorem wSe_X4_X4_correctionsThatFit : Cond.selects "CavershamShift$Newsroom" yX4_correctionsThatFit yX4_correctionsThatFit ∈ ALLW := wAll (wSel 0 rfl) rfl
set_option maxRecDepth 8000 in
theorem wSe_X4_X4_sendReports : Cond.selects "CavershamShift$Newsroom" yX4_sendReports yX4_sendReports ∈ ALLW := wAll (wSel 1 rfl) rfl
set_option maxRecDepth 8000 in
theorem wSe_X4_X4_markSent : Cond.selects "CavershamShift$Newsroom" yX4_markSent yX4_markSent ∈ ALLW := wAll (wSel 2 rfl) rfl
set_option maxRecDepth 8000 in
theorem wSe_Jx4a65c_Jx4a65c_add_72be8 : Cond.selects "java/util/ArrayList" yJx4a65c_add_72be8 yJx4a65c_add_72be8 ∈ ALLW := wAll (wSel 3 rfl) rfl
set_option maxRecDepth 8000 in
theorem wSe_Jx4a65c_Jx4a65c_grow_d5877 : Cond.selects "java/util/ArrayList" yJx4a65c_grow_d5877 yJx4a65c_grow_d5877 ∈ ALLW := wAll (wSel 4 rfl) rfl
set_option maxRecDepth 8000 in
theorem wSe_Jx4a65c_Jx4a65c_grow_92f84 : Cond.selects "java/util/ArrayList" yJx4a65c_grow_92f84 yJx4a65c_grow_92f84 ∈ ALLW := wAll (wSel 5 rfl) rfl
set_option maxRecDepth 8000 in
theorem wSe_X4_X4_areReportsSound : Cond.selects "CavershamShift$Newsroom" yX4_areReportsSound yX4_areReportsSound ∈ ALLW := wAll (wSel 6 rfl) rfl
set_option maxRecDepth 8000 in
theorem wSe_X10_X10_deskFact : Cond.selects "CavershamShift" yX10_deskFact yX10_deskFact ∈ ALLW := wAll (wSel 7 rfl) rfl
set_option maxRecDepth 8000 in
theorem wSe_X10_X10_day : Cond.selects "CavershamShift" yX10_day yX10_day ∈ ALLW := wAll (wSel 8 rfl) rfl
set_option maxRecDepth 8000 in
theorem wSe_X10_X10_hourOfDay : Cond.selects "CavershamShift" yX10_hourOfDay yX10_hourOfDay ∈ ALLW := wAll (wSel 9 rfl) rfl
set_option maxRecDepth 8000 in
theorem wSe_X10_X10_withDial : Cond.selects "CavershamShift" yX10_withDial yX10_withDial ∈ ALLW := wAll (wSel 10 rfl) rfl
set_option maxRecDepth 8000 in
theorem wSe_X10_X10_stationFact : Cond.selects "CavershamShift" yX10_stationFact yX10_stationFact ∈ ALLW := wAll (wSel 11 rfl) rfl
set_option maxRecDepth 8000 in
theorem wSe_X10_X10_monitorFact : Cond.selects "CavershamShift" yX10_monitorFact yX10_monitorFact ∈ ALLW := wAll (wSel 12 rfl) rfl
set_option maxRecDepth 8000 in
theorem wSe_X10_X10_withBestShift : Cond.selects "CavershamShift" yX10_withBestShift yX10_withBestShift ∈ ALLW := wAll (wSel 13 rfl) rfl
set_option maxRecDepth 8000 in
theorem wSe_X2_X2_readQualities : Cond.selects "CavershamShift$Matching" yX2_readQualities yX2_readQualities ∈ ALLW := wAll (wSel 14 rfl) rfl
set_option maxRecDepth 8000 in
theorem wSe_X2_X2_greatestOf : Cond.selects "CavershamShift$Matching" yX2_greatestOf yX2_greatestOf ∈ ALLW := wAll (wSel 15 rfl) rfl
set_option maxRecDepth 8000 in
theorem wSe_X2_X2_addStation : Cond.selects "CavershamShift$Matching" yX2_addStation yX2_addStation ∈ ALLW := wAll (wSel 16 rfl) rfl
set_option maxRecDepth 8000 in
theorem wSe_X2_X2_qualityOfPair : Cond.selects "CavershamShift$Matching" yX2_qualityOfPair yX2_qualityOfPair ∈ ALLW := wAll (wSel 17 rfl) rfl
set_option maxRecDepth 8000 in
theorem wSe_X2_X2_smallestPair : Cond.selects "CavershamShift$Matching" yX2_smallestPair yX2_smallestPair ∈ ALLW := wAll (wSel 18 rfl) rfl
set_option maxRecDepth 8000 in
theorem wSe_X2_X2_pairAtSet : Cond.selects "CavershamShift$Matching" yX2_pairAtSet yX2_pairAtSet ∈ ALLW := wAll (wSel 19 rfl) rfl
set_option maxRecDepth 8000 in
theorem wSe_X10_X10_withTalks : Cond.selects "CavershamShift" yX10_withTalks yX10_withTalks ∈ ALLW := wAll (wSel 20 rfl) rfl
set_option maxRecDepth 8000 in
theorem wSe_X10_X10_talkFact : Cond.selects "CavershamShift" yX10_talkFact yX10_talkFact ∈ ALLW := wAll (wSel 21 rfl) rfl
set_option maxRecDepth 8000 in
theorem wSe_X10_X10_reportFact : Cond.selects "CavershamShift" yX10_reportFact yX10_reportFact ∈ ALLW := wAll (wSel 22 rfl) rfl
set_option maxRecDepth 8000 in
theorem wSe_X10_X10_withReaders : Cond.selects "CavershamShift" yX10_withReaders yX10_withReaders ∈ ALLW := wAll (wSel 23 rfl) rfl
set_option maxRecDepth 8000 in
theorem wSe_X10_X10_readerFact : Cond.selects "CavershamShift" yX10_readerFact yX10_readerFact ∈ ALLW := wAll (wSel 24 rfl) rfl
set_option maxRecDepth 8000 in
theorem wSe_X4_X4_countReportsOn : Cond.selects "CavershamShift$Newsroom" yX4_countReportsOn yX4_countReportsOn ∈ ALLW := wAll (wSel 25 rfl) rfl
set_option maxRecDepth 8000 in
theorem wSe_X10_X10_endHour : Cond.selects "CavershamShift" yX10_endHour yX10_endHour ∈ ALLW := wAll (wSel 27 rfl) rfl
set_option maxRecDepth 8000 in
theorem wSe_X4_X4_sendCorrections : Cond.selects "CavershamShift$Newsroom" yX4_sendCorrections yX4_sendCorrections ∈ ALLW := wAll (wSel 28 rfl) rfl
set_option maxRecDepth 8000 in
theorem wSe_X16_X16_no : Cond.selects "CavershamShiftModel" yX16_no yX16_no ∈ ALLW := wAll (wSel 29 rfl) rfl
set_option maxRecDepth 8000 in
theorem wSe_X16_X16_isStation : Cond.selects "CavershamShiftModel" yX16_isStation yX16_isStation ∈ ALLW := wAll (wSel 30 rfl) rfl
set_option maxRecDepth 8000 in
theorem wSe_X16_X16_isMonitor : Cond.selects "CavershamShiftModel" yX16_isMonitor yX16_isMonitor ∈ ALLW := wAll (wSel 31 rfl) rfl
set_option maxRecDepth 8000 in
theorem wSe_X16_X16_setOf : Cond.selects "CavershamShiftModel" yX16_setOf yX16_setOf ∈ ALLW := wAll (wSel 32 rfl) rfl
set_option maxRecDepth 8000 in
theorem wSe_X16_X16_isOn : Cond.selects "CavershamShiftModel" yX16_isOn yX16_isOn ∈ ALLW := wAll (wSel 33 rfl) rfl
set_option maxRecDepth 8000 in
theorem wSe_X16_X16_isTalk : Cond.selects "CavershamShiftModel" yX16_isTalk yX16_isTalk ∈ ALLW := wAll (wSel 34 rfl) rfl
set_option maxRecDepth 8000 in
theorem wSe_X16_X16_enqueue : Cond.selects "CavershamShiftModel" yX16_enqueue yX16_enqueue ∈ ALLW := wAll (wSel 35 rfl) rfl
set_option maxRecDepth 8000 in
theorem wSe_X16_X16_isReader : Cond.selects "CavershamShiftModel" yX16_isReader yX16_isReader ∈ ALLW := wAll (wSel 36 rfl) rfl
set_option maxRecDepth 8000 in
theorem wSe_X16_X16_landOf : Cond.selects "CavershamShiftModel" yX16_landOf yX16_landOf ∈ ALLW := wAll (wSel 37 rfl) rfl
set_option maxRecDepth 8000 in
theorem wSe_X16_X16_hour : Cond.selects "CavershamShiftModel" yX16_hour yX16_hour ∈ ALLW := wAll (wSel 38 rfl) rfl
set_option maxRecDepth 8000 in
theorem wSe_X16_X16_record : Cond.selects "CavershamShiftModel" yX16_record yX16_record ∈ ALLW := wAll (wSel 39 rfl) rfl
set_option maxRecDepth 8000 in
theorem wSe_X16_X16_recorder : Cond.selects "CavershamShiftModel" yX16_recorder yX16_recorder ∈ ALLW := wAll (wSel 40 rfl) rfl
set_option maxRecDepth 8000 in
theorem wSe_X16_X16_qualityNow : Cond.selects "CavershamShiftModel" yX16_qualityNow yX16_qualityNow ∈ ALLW := wAll (wSel 41 rfl) rfl
set_option maxRecDepth 8000 in
theorem wSe_X16_X16_comesNow : Cond.selects "CavershamShiftModel" yX16_comesNow yX16_comesNow ∈ ALLW := wAll (wSel 42 rfl) rfl
set_option maxRecDepth 8000 in
theorem wSe_X16_X16_isStale : Cond.selects "CavershamShiftModel" yX16_isStale yX16_isStale ∈ ALLW := wAll (wSel 43 rfl) rfl
set_option maxRecDepth 8000 in
theorem wSe_X16_X16_correct : Cond.selects "CavershamShiftModel" yX16_correct yX16_correct ∈ ALLW := wAll (wSel 44 rfl) rfl
set_option maxRecDepth 8000 in
theorem wSe_X16_X16_next : Cond.selects "CavershamShiftModel" yX16_next yX16_next ∈ ALLW := wAll (wSel 45 rfl) rfl
set_option maxRecDepth 8000 in
theorem wSe_X16_X16_send : Cond.selects "CavershamShiftModel" yX16_send yX16_send ∈ ALLW := wAll (wSel 46 rfl) rfl
set_option maxRecDepth 8000 in
theorem wSe_X16_X16_stationNow : Cond.selects "CavershamShiftModel" yX16_stationNow yX16_stationNow ∈ ALLW := wAll (wSel 47 rfl) rfl
set_option maxRecDepth 8000 in
theorem wSe_X16_X16_monitorNow : Cond.selects "CavershamShiftModel" yX16_monitorNow yX16_monitorNow ∈ ALLW := wAll (wSel 48 rfl) rfl
set_option maxRecDepth 8000 in
theorem wSe_X16_X16_talkNow : Cond.selects "CavershamShiftModel" yX16_talkNow yX16_talkNow ∈ ALLW := wAll (wSel 49 rfl) rfl
set_option maxRecDepth 8000 in
theorem wSe_X16_X16_reportNow : Cond.selects "CavershamShiftModel" yX16_reportNow yX16_reportNow ∈ ALLW := wAll (wSel 50 rfl) rfl
set_option maxRecDepth 8000 in
theorem wSe_X16_X16_readerNow : Cond.selects "CavershamShiftModel" yX16_readerNow yX16_readerNow ∈ ALLW := wAll (wSel 51 rfl) rfl
set_option maxRecDepth 8000 in
theorem wSe_X16_X16_usedNow : Cond.selects "CavershamShiftModel" yX16_usedNow yX16_usedNow ∈ ALLW := wAll (wSel 52 rfl) rfl
set_option maxRecDepth 8000 in
theorem wSe_X16_X16_goneNow : Cond.selects "CavershamShiftModel" yX16_goneNow yX16_goneNow ∈ ALLW := wAll (wSel 53 rfl) rfl
set_option maxRecDepth 8000 in
theorem wSe_X16_X16_firstNow : Cond.selects "CavershamShiftModel" yX16_firstNow yX16_firstNow ∈ ALLW := wAll (wSel 54 rfl) rfl
set_option maxRecDepth 8000 in
theorem wSe_X16_X16_clarityNow : Cond.selects "CavershamShiftModel" yX16_clarityNow yX16_clarityNow ∈ ALLW := wAll (wSel 55 rfl) rfl
set_option maxRecDepth 8000 in
theorem wSe_X16_X16_deskNow : Cond.selects "CavershamShiftModel" yX16_deskNow yX16_deskNow ∈ ALLW := wAll (wSel 56 rfl) rfl
set_option maxRecDepth 8000 in
theorem wSe_X16_X16_bestNow : Cond.selects "CavershamShiftModel" yX16_bestNow yX16_bestNow ∈ ALLW := wAll (wSel 57 rfl) rfl
set_option maxRecDepth 8000 in
theorem wSe_X16_X16_wouldSendNow : Cond.selects "CavershamShiftModel" yX16_wouldSendNow yX16_wouldSendNow ∈ ALLW := wAll (wSel 58 rfl) rfl
set_option maxRecDepth 8000 in
theorem wSe_X16_X16_isSoundNow : Cond.selects "CavershamShiftModel" yX16_isSoundNow yX16_isSoundNow ∈ ALLW := wAll (wSel 59 rfl) rfl

