theorem mb_0 : (.selects "PeriodWords" ⟨"PeriodWords", "keep", "(LPeriodWords$Word;)I"⟩ ⟨"PeriodWords", "keep", "(LPeriodWords$Word;)I"⟩ : Cond) ∈ TB := tb_of (List.mem_of_getElem? (i := 0) (by decide +kernel)) (by decide +kernel)
theorem mb_1 : (.selects "PeriodWords" ⟨"PeriodWords", "find", "(I)LPeriodWords$Word;"⟩ ⟨"PeriodWords", "find", "(I)LPeriodWords$Word;"⟩ : Cond) ∈ TB := tb_of (List.mem_of_getElem? (i := 1) (by decide +kernel)) (by decide +kernel)
theorem mb_3 : (.selects "PeriodWordsModel" ⟨"PeriodWordsModel", "settle", "(II)I"⟩ ⟨"PeriodWordsModel", "settle", "(II)I"⟩ : Cond) ∈ TB := tb_of (List.mem_of_getElem? (i := 3) (by decide +kernel)) (by decide +kernel)
theorem mb_4 : (.selects "PeriodWordsModel" ⟨"PeriodWordsModel", "comesBack", "(III)Z"⟩ ⟨"PeriodWordsModel", "comesBack", "(III)Z"⟩ : Cond) ∈ TB := tb_of (List.mem_of_getElem? (i := 4) (by decide +kernel)) (by decide +kernel)
theorem mb_5 : (.selects "PeriodWordsModel" ⟨"PeriodWordsModel", "isWord", "(I)Z"⟩ ⟨"PeriodWordsModel", "isWord", "(I)Z"⟩ : Cond) ∈ TB := tb_of (List.mem_of_getElem? (i := 5) (by decide +kernel)) (by decide +kernel)
theorem mb_6 : (.selects "PeriodWordsModel" ⟨"PeriodWordsModel", "inRing", "(I)I"⟩ ⟨"PeriodWordsModel", "inRing", "(I)I"⟩ : Cond) ∈ TB := tb_of (List.mem_of_getElem? (i := 6) (by decide +kernel)) (by decide +kernel)
theorem mb_7 : (.selects "PeriodWordsModel" ⟨"PeriodWordsModel", "raise", "()I"⟩ ⟨"PeriodWordsModel", "raise", "()I"⟩ : Cond) ∈ TB := tb_of (List.mem_of_getElem? (i := 7) (by decide +kernel)) (by decide +kernel)
theorem mb_8 : (.selects "PeriodWordsModel" ⟨"PeriodWordsModel", "opposite", "(I)I"⟩ ⟨"PeriodWordsModel", "opposite", "(I)I"⟩ : Cond) ∈ TB := tb_of (List.mem_of_getElem? (i := 8) (by decide +kernel)) (by decide +kernel)
theorem mb_9 : (.selects "PeriodWordsModel" ⟨"PeriodWordsModel", "has", "(II)Z"⟩ ⟨"PeriodWordsModel", "has", "(II)Z"⟩ : Cond) ∈ TB := tb_of (List.mem_of_getElem? (i := 9) (by decide +kernel)) (by decide +kernel)
theorem mb_10 : (.selects "PeriodWordsModel" ⟨"PeriodWordsModel", "on", "(II)I"⟩ ⟨"PeriodWordsModel", "on", "(II)I"⟩ : Cond) ∈ TB := tb_of (List.mem_of_getElem? (i := 10) (by decide +kernel)) (by decide +kernel)
theorem mb_11 : (.selects "PeriodWordsModel" ⟨"PeriodWordsModel", "by", "(II)I"⟩ ⟨"PeriodWordsModel", "by", "(II)I"⟩ : Cond) ∈ TB := tb_of (List.mem_of_getElem? (i := 11) (by decide +kernel)) (by decide +kernel)
theorem mb_12 : (.selects "PeriodWordsModel" ⟨"PeriodWordsModel", "late", "(II)I"⟩ ⟨"PeriodWordsModel", "late", "(II)I"⟩ : Cond) ∈ TB := tb_of (List.mem_of_getElem? (i := 12) (by decide +kernel)) (by decide +kernel)
theorem mb_13 : (.selects "PeriodWordsModel" ⟨"PeriodWordsModel", "halved", "(I)I"⟩ ⟨"PeriodWordsModel", "halved", "(I)I"⟩ : Cond) ∈ TB := tb_of (List.mem_of_getElem? (i := 13) (by decide +kernel)) (by decide +kernel)
theorem mb_14 : (.selects "PeriodWordsModel" ⟨"PeriodWordsModel", "joined", "(III)I"⟩ ⟨"PeriodWordsModel", "joined", "(III)I"⟩ : Cond) ∈ TB := tb_of (List.mem_of_getElem? (i := 14) (by decide +kernel)) (by decide +kernel)
theorem mb_15 : (.selects "PeriodWordsModel" ⟨"PeriodWordsModel", "onesAhead", "(II)I"⟩ ⟨"PeriodWordsModel", "onesAhead", "(II)I"⟩ : Cond) ∈ TB := tb_of (List.mem_of_getElem? (i := 15) (by decide +kernel)) (by decide +kernel)
theorem mb_16 : (.selects "PeriodWordsModel" ⟨"PeriodWordsModel", "place", "(II)I"⟩ ⟨"PeriodWordsModel", "place", "(II)I"⟩ : Cond) ∈ TB := tb_of (List.mem_of_getElem? (i := 16) (by decide +kernel)) (by decide +kernel)
theorem mb_17 : (.selects "PeriodWordsModel" ⟨"PeriodWordsModel", "rates", "(II)I"⟩ ⟨"PeriodWordsModel", "rates", "(II)I"⟩ : Cond) ∈ TB := tb_of (List.mem_of_getElem? (i := 17) (by decide +kernel)) (by decide +kernel)
theorem mb_18 : (.selects "PeriodWordsModel" ⟨"PeriodWordsModel", "keep", "(II)V"⟩ ⟨"PeriodWordsModel", "keep", "(II)V"⟩ : Cond) ∈ TB := tb_of (List.mem_of_getElem? (i := 18) (by decide +kernel)) (by decide +kernel)
theorem mb_19 : (.selects "PeriodWordsModel" ⟨"PeriodWordsModel", "till", "(II)I"⟩ ⟨"PeriodWordsModel", "till", "(II)I"⟩ : Cond) ∈ TB := tb_of (List.mem_of_getElem? (i := 19) (by decide +kernel)) (by decide +kernel)
theorem mb_20 : (.selects "PeriodWordsModel" ⟨"PeriodWordsModel", "waiting", "(II)I"⟩ ⟨"PeriodWordsModel", "waiting", "(II)I"⟩ : Cond) ∈ TB := tb_of (List.mem_of_getElem? (i := 20) (by decide +kernel)) (by decide +kernel)
theorem mb_21 : (.initialized "PeriodWordsLaw" : Cond) ∈ TB := tb_of (List.mem_of_getElem? (i := 21) (by decide +kernel)) (by decide +kernel)
theorem mb_22 : (.initialized "PeriodWords" : Cond) ∈ TB := tb_of (List.mem_of_getElem? (i := 22) (by decide +kernel)) (by decide +kernel)
theorem mb_23 : (.initialized "PeriodWordsModel" : Cond) ∈ TB := tb_of (List.mem_of_getElem? (i := 23) (by decide +kernel)) (by decide +kernel)
theorem mb_24 : (.initialized "PeriodWords$Word" : Cond) ∈ TB := tb_of (List.mem_of_getElem? (i := 24) (by decide +kernel)) (by decide +kernel)
theorem mb_25 : (.initialized "java/lang/Math" : Cond) ∈ TB := tb_of (List.mem_of_getElem? (i := 25) (by decide +kernel)) (by decide +kernel)
theorem mb_26 : (.initialized "java/lang/Long" : Cond) ∈ TB := tb_of (List.mem_of_getElem? (i := 26) (by decide +kernel)) (by decide +kernel)
theorem mb_27 : (.initialized "PeriodWords$Draft" : Cond) ∈ TB := tb_of (List.mem_of_getElem? (i := 27) (by decide +kernel)) (by decide +kernel)
theorem mb_29 : (.initialized "java/lang/Exception" : Cond) ∈ TB := tb_of (List.mem_of_getElem? (i := 29) (by decide +kernel)) (by decide +kernel)
theorem mb_30 : (.initialized "java/lang/RuntimeException" : Cond) ∈ TB := tb_of (List.mem_of_getElem? (i := 30) (by decide +kernel)) (by decide +kernel)
theorem mb_31 : (.initialized "java/lang/IllegalArgumentException" : Cond) ∈ TB := tb_of (List.mem_of_getElem? (i := 31) (by decide +kernel)) (by decide +kernel)
theorem mb_32 : (.initialized "java/util/NoSuchElementException" : Cond) ∈ TB := tb_of (List.mem_of_getElem? (i := 32) (by decide +kernel)) (by decide +kernel)
theorem mb_33 : (.initialized "java/lang/Integer" : Cond) ∈ TB := tb_of (List.mem_of_getElem? (i := 33) (by decide +kernel)) (by decide +kernel)
theorem mb_34 : (.initialized "java/lang/ArithmeticException" : Cond) ∈ TB := tb_of (List.mem_of_getElem? (i := 34) (by decide +kernel)) (by decide +kernel)
theorem mb_35 : (.classLink "PeriodWordsLaw" 8 "PeriodWords" : Cond) ∈ TB := tb_of (List.mem_of_getElem? (i := 35) (by decide +kernel)) (by decide +kernel)
theorem mb_36 : (.instantiable "PeriodWords" 2 : Cond) ∈ TB := tb_of (List.mem_of_getElem? (i := 36) (by decide +kernel)) (by decide +kernel)
theorem mb_37 : (.methodLink "PeriodWordsLaw" 26 ⟨"PeriodWords", "<init>", "()V"⟩ : Cond) ∈ TB := tb_of (List.mem_of_getElem? (i := 37) (by decide +kernel)) (by decide +kernel)
theorem mb_38 : (.instanceMethod ⟨"PeriodWords", "<init>", "()V"⟩ : Cond) ∈ TB := tb_of (List.mem_of_getElem? (i := 38) (by decide +kernel)) (by decide +kernel)
set_option maxRecDepth 20000 in
theorem mb_39 : (.code ⟨"PeriodWords", "<init>", "()V"⟩ prog_1_method_1_code 1 none : Cond) ∈ TB := tb_of (List.mem_of_getElem? (i := 39) rfl) rfl
theorem mb_40 : (.methodLink "PeriodWords" 1 ⟨"java/lang/Object", "<init>", "()V"⟩ : Cond) ∈ TB := tb_of (List.mem_of_getElem? (i := 40) (by decide +kernel)) (by decide +kernel)
theorem mb_41 : (.instanceMethod ⟨"java/lang/Object", "<init>", "()V"⟩ : Cond) ∈ TB := tb_of (List.mem_of_getElem? (i := 41) (by decide +kernel)) (by decide +kernel)
set_option maxRecDepth 20000 in
theorem mb_42 : (.code ⟨"java/lang/Object", "<init>", "()V"⟩ object_method_1_code 1 none : Cond) ∈ TB := tb_of (List.mem_of_getElem? (i := 42) rfl) rfl
theorem mb_43 : (.classLink "PeriodWords" 9 "PeriodWords$Word" : Cond) ∈ TB := tb_of (List.mem_of_getElem? (i := 43) (by decide +kernel)) (by decide +kernel)
theorem mb_45 : (.fieldLink "PeriodWords" 11 "PeriodWords" "words" "[LPeriodWords$Word;" : Cond) ∈ TB := tb_of (List.mem_of_getElem? (i := 45) (by decide +kernel)) (by decide +kernel)
theorem mb_46 : (.fieldLink "PeriodWords" 15 "PeriodWords" "count" "I" : Cond) ∈ TB := tb_of (List.mem_of_getElem? (i := 46) (by decide +kernel)) (by decide +kernel)
theorem mb_52 : (.methodLink "PeriodWordsLaw" 30 ⟨"PeriodWords", "word", "(IIII)I"⟩ : Cond) ∈ TB := tb_of (List.mem_of_getElem? (i := 52) (by decide +kernel)) (by decide +kernel)
theorem mb_53 : (.instanceMethod ⟨"PeriodWords", "word", "(IIII)I"⟩ : Cond) ∈ TB := tb_of (List.mem_of_getElem? (i := 53) (by decide +kernel)) (by decide +kernel)
theorem mb_54 : (.selects "PeriodWords" ⟨"PeriodWords", "word", "(IIII)I"⟩ ⟨"PeriodWords", "word", "(IIII)I"⟩ : Cond) ∈ TB := tb_of (List.mem_of_getElem? (i := 54) (by decide +kernel)) (by decide +kernel)
set_option maxRecDepth 20000 in
theorem mb_55 : (.code ⟨"PeriodWords", "word", "(IIII)I"⟩ prog_1_method_2_code 6 (some .int) : Cond) ∈ TB := tb_of (List.mem_of_getElem? (i := 55) rfl) rfl
theorem mb_56 : (.instantiable "PeriodWords$Word" 7 : Cond) ∈ TB := tb_of (List.mem_of_getElem? (i := 56) (by decide +kernel)) (by decide +kernel)
theorem mb_57 : (.methodLink "PeriodWords" 19 ⟨"PeriodWords$Word", "<init>", "(IJIJ)V"⟩ : Cond) ∈ TB := tb_of (List.mem_of_getElem? (i := 57) (by decide +kernel)) (by decide +kernel)
theorem mb_58 : (.instanceMethod ⟨"PeriodWords$Word", "<init>", "(IJIJ)V"⟩ : Cond) ∈ TB := tb_of (List.mem_of_getElem? (i := 58) (by decide +kernel)) (by decide +kernel)
set_option maxRecDepth 20000 in
theorem mb_59 : (.code ⟨"PeriodWords$Word", "<init>", "(IJIJ)V"⟩ prog_3_method_1_code 7 none : Cond) ∈ TB := tb_of (List.mem_of_getElem? (i := 59) rfl) rfl
theorem mb_60 : (.methodLink "PeriodWords$Word" 3 ⟨"java/lang/Object", "<init>", "()V"⟩ : Cond) ∈ TB := tb_of (List.mem_of_getElem? (i := 60) (by decide +kernel)) (by decide +kernel)
theorem mb_61 : (.methodLink "PeriodWords$Word" 15 ⟨"PeriodWords$Word", "lowest", "(I)J"⟩ : Cond) ∈ TB := tb_of (List.mem_of_getElem? (i := 61) (by decide +kernel)) (by decide +kernel)
theorem mb_62 : (.static ⟨"PeriodWords$Word", "lowest", "(I)J"⟩ : Cond) ∈ TB := tb_of (List.mem_of_getElem? (i := 62) (by decide +kernel)) (by decide +kernel)
set_option maxRecDepth 20000 in
theorem mb_63 : (.code ⟨"PeriodWords$Word", "lowest", "(I)J"⟩ prog_3_method_2_code 1 (some .long) : Cond) ∈ TB := tb_of (List.mem_of_getElem? (i := 63) rfl) rfl
theorem mb_64 : (.methodLink "PeriodWords$Word" 23 ⟨"java/lang/Math", "max", "(II)I"⟩ : Cond) ∈ TB := tb_of (List.mem_of_getElem? (i := 64) (by decide +kernel)) (by decide +kernel)
theorem mb_65 : (.static ⟨"java/lang/Math", "max", "(II)I"⟩ : Cond) ∈ TB := tb_of (List.mem_of_getElem? (i := 65) (by decide +kernel)) (by decide +kernel)
set_option maxRecDepth 20000 in
theorem mb_66 : (.code ⟨"java/lang/Math", "max", "(II)I"⟩ prog_11_method_65_code 2 (some .int) : Cond) ∈ TB := tb_of (List.mem_of_getElem? (i := 66) rfl) rfl
theorem mb_67 : (.methodLink "PeriodWords$Word" 35 ⟨"java/lang/Long", "bitCount", "(J)I"⟩ : Cond) ∈ TB := tb_of (List.mem_of_getElem? (i := 67) (by decide +kernel)) (by decide +kernel)
theorem mb_68 : (.static ⟨"java/lang/Long", "bitCount", "(J)I"⟩ : Cond) ∈ TB := tb_of (List.mem_of_getElem? (i := 68) (by decide +kernel)) (by decide +kernel)
set_option maxRecDepth 20000 in
theorem mb_69 : (.code ⟨"java/lang/Long", "bitCount", "(J)I"⟩ prog_10_method_50_code 2 (some .int) : Cond) ∈ TB := tb_of (List.mem_of_getElem? (i := 69) rfl) rfl
theorem mb_70 : (.constantLong "java/lang/Long" 314 6148914691236517205 : Cond) ∈ TB := tb_of (List.mem_of_getElem? (i := 70) (by decide +kernel)) (by decide +kernel)
theorem mb_71 : (.constantLong "java/lang/Long" 316 3689348814741910323 : Cond) ∈ TB := tb_of (List.mem_of_getElem? (i := 71) (by decide +kernel)) (by decide +kernel)
theorem mb_72 : (.constantLong "java/lang/Long" 318 1085102592571150095 : Cond) ∈ TB := tb_of (List.mem_of_getElem? (i := 72) (by decide +kernel)) (by decide +kernel)
theorem mb_73 : (.methodLink "PeriodWords$Word" 47 ⟨"PeriodWords$Word", "placesOf", "(JJ)[I"⟩ : Cond) ∈ TB := tb_of (List.mem_of_getElem? (i := 73) (by decide +kernel)) (by decide +kernel)
theorem mb_74 : (.static ⟨"PeriodWords$Word", "placesOf", "(JJ)[I"⟩ : Cond) ∈ TB := tb_of (List.mem_of_getElem? (i := 74) (by decide +kernel)) (by decide +kernel)
set_option maxRecDepth 20000 in
theorem mb_75 : (.code ⟨"PeriodWords$Word", "placesOf", "(JJ)[I"⟩ prog_3_method_3_code 6 (some (.array .int)) : Cond) ∈ TB := tb_of (List.mem_of_getElem? (i := 75) rfl) rfl
theorem mb_76 : (.methodLink "PeriodWords$Word" 55 ⟨"PeriodWords$Word", "writePlaces", "([IIJ)V"⟩ : Cond) ∈ TB := tb_of (List.mem_of_getElem? (i := 76) (by decide +kernel)) (by decide +kernel)
theorem mb_77 : (.static ⟨"PeriodWords$Word", "writePlaces", "([IIJ)V"⟩ : Cond) ∈ TB := tb_of (List.mem_of_getElem? (i := 77) (by decide +kernel)) (by decide +kernel)
set_option maxRecDepth 20000 in
theorem mb_78 : (.code ⟨"PeriodWords$Word", "writePlaces", "([IIJ)V"⟩ prog_3_method_4_code 6 none : Cond) ∈ TB := tb_of (List.mem_of_getElem? (i := 78) rfl) rfl
theorem mb_79 : (.fieldLink "PeriodWords$Word" 9 "PeriodWords$Word" "headLength" "I" : Cond) ∈ TB := tb_of (List.mem_of_getElem? (i := 79) (by decide +kernel)) (by decide +kernel)
theorem mb_80 : (.fieldLink "PeriodWords" 52 "PeriodWords$Word" "headLength" "I" : Cond) ∈ TB := tb_of (List.mem_of_getElem? (i := 80) (by decide +kernel)) (by decide +kernel)
theorem mb_81 : (.fieldLink "PeriodWords$Word" 19 "PeriodWords$Word" "headBits" "J" : Cond) ∈ TB := tb_of (List.mem_of_getElem? (i := 81) (by decide +kernel)) (by decide +kernel)
theorem mb_82 : (.fieldLink "PeriodWords" 108 "PeriodWords$Word" "headBits" "J" : Cond) ∈ TB := tb_of (List.mem_of_getElem? (i := 82) (by decide +kernel)) (by decide +kernel)
theorem mb_83 : (.fieldLink "PeriodWords$Word" 29 "PeriodWords$Word" "ringLength" "I" : Cond) ∈ TB := tb_of (List.mem_of_getElem? (i := 83) (by decide +kernel)) (by decide +kernel)
theorem mb_84 : (.fieldLink "PeriodWords" 55 "PeriodWords$Word" "ringLength" "I" : Cond) ∈ TB := tb_of (List.mem_of_getElem? (i := 84) (by decide +kernel)) (by decide +kernel)
theorem mb_85 : (.fieldLink "PeriodWords$Word" 32 "PeriodWords$Word" "ringBits" "J" : Cond) ∈ TB := tb_of (List.mem_of_getElem? (i := 85) (by decide +kernel)) (by decide +kernel)
theorem mb_86 : (.fieldLink "PeriodWords" 112 "PeriodWords$Word" "ringBits" "J" : Cond) ∈ TB := tb_of (List.mem_of_getElem? (i := 86) (by decide +kernel)) (by decide +kernel)
theorem mb_87 : (.fieldLink "PeriodWords$Word" 41 "PeriodWords$Word" "headOnes" "I" : Cond) ∈ TB := tb_of (List.mem_of_getElem? (i := 87) (by decide +kernel)) (by decide +kernel)
theorem mb_88 : (.fieldLink "PeriodWords" 62 "PeriodWords$Word" "headOnes" "I" : Cond) ∈ TB := tb_of (List.mem_of_getElem? (i := 88) (by decide +kernel)) (by decide +kernel)
theorem mb_89 : (.fieldLink "PeriodWords$Word" 44 "PeriodWords$Word" "ringOnes" "I" : Cond) ∈ TB := tb_of (List.mem_of_getElem? (i := 89) (by decide +kernel)) (by decide +kernel)
theorem mb_90 : (.fieldLink "PeriodWords" 42 "PeriodWords$Word" "ringOnes" "I" : Cond) ∈ TB := tb_of (List.mem_of_getElem? (i := 90) (by decide +kernel)) (by decide +kernel)
theorem mb_91 : (.fieldLink "PeriodWords$Word" 51 "PeriodWords$Word" "places" "[I" : Cond) ∈ TB := tb_of (List.mem_of_getElem? (i := 91) (by decide +kernel)) (by decide +kernel)
theorem mb_107 : (.arrayClass .int : Cond) ∈ TB := tb_of (List.mem_of_getElem? (i := 107) (by decide +kernel)) (by decide +kernel)
theorem mb_108 : (.methodLink "PeriodWords" 22 ⟨"PeriodWords", "draftOf", "(ILPeriodWords$Word;LPeriodWords$Word;I)LPeriodWords$Draft;"⟩ : Cond) ∈ TB := tb_of (List.mem_of_getElem? (i := 108) (by decide +kernel)) (by decide +kernel)
theorem mb_109 : (.static ⟨"PeriodWords", "draftOf", "(ILPeriodWords$Word;LPeriodWords$Word;I)LPeriodWords$Draft;"⟩ : Cond) ∈ TB := tb_of (List.mem_of_getElem? (i := 109) (by decide +kernel)) (by decide +kernel)
set_option maxRecDepth 20000 in
theorem mb_110 : (.code ⟨"PeriodWords", "draftOf", "(ILPeriodWords$Word;LPeriodWords$Word;I)LPeriodWords$Draft;"⟩ prog_1_method_17_code 4 (some (.object "PeriodWords$Draft")) : Cond) ∈ TB := tb_of (List.mem_of_getElem? (i := 110) rfl) rfl
theorem mb_111 : (.methodLink "PeriodWords" 115 ⟨"PeriodWords", "draftOn", "(LPeriodWords$Word;LPeriodWords$Word;)LPeriodWords$Draft;"⟩ : Cond) ∈ TB := tb_of (List.mem_of_getElem? (i := 111) (by decide +kernel)) (by decide +kernel)
theorem mb_112 : (.static ⟨"PeriodWords", "draftOn", "(LPeriodWords$Word;LPeriodWords$Word;)LPeriodWords$Draft;"⟩ : Cond) ∈ TB := tb_of (List.mem_of_getElem? (i := 112) (by decide +kernel)) (by decide +kernel)
set_option maxRecDepth 20000 in
theorem mb_113 : (.code ⟨"PeriodWords", "draftOn", "(LPeriodWords$Word;LPeriodWords$Word;)LPeriodWords$Draft;"⟩ prog_1_method_18_code 4 (some (.object "PeriodWords$Draft")) : Cond) ∈ TB := tb_of (List.mem_of_getElem? (i := 113) rfl) rfl
theorem mb_114 : (.classLink "PeriodWords" 122 "PeriodWords$Draft" : Cond) ∈ TB := tb_of (List.mem_of_getElem? (i := 114) (by decide +kernel)) (by decide +kernel)
theorem mb_115 : (.instantiable "PeriodWords$Draft" 6 : Cond) ∈ TB := tb_of (List.mem_of_getElem? (i := 115) (by decide +kernel)) (by decide +kernel)
theorem mb_116 : (.methodLink "PeriodWords" 124 ⟨"PeriodWords$Draft", "<init>", "(ILPeriodWords$Word;LPeriodWords$Word;III)V"⟩ : Cond) ∈ TB := tb_of (List.mem_of_getElem? (i := 116) (by decide +kernel)) (by decide +kernel)
theorem mb_117 : (.instanceMethod ⟨"PeriodWords$Draft", "<init>", "(ILPeriodWords$Word;LPeriodWords$Word;III)V"⟩ : Cond) ∈ TB := tb_of (List.mem_of_getElem? (i := 117) (by decide +kernel)) (by decide +kernel)
set_option maxRecDepth 20000 in
theorem mb_118 : (.code ⟨"PeriodWords$Draft", "<init>", "(ILPeriodWords$Word;LPeriodWords$Word;III)V"⟩ prog_2_method_1_code 7 none : Cond) ∈ TB := tb_of (List.mem_of_getElem? (i := 118) rfl) rfl
theorem mb_119 : (.methodLink "PeriodWords$Draft" 3 ⟨"java/lang/Object", "<init>", "()V"⟩ : Cond) ∈ TB := tb_of (List.mem_of_getElem? (i := 119) (by decide +kernel)) (by decide +kernel)
theorem mb_120 : (.fieldLink "PeriodWords$Draft" 25 "PeriodWords$Draft" "headLength" "I" : Cond) ∈ TB := tb_of (List.mem_of_getElem? (i := 120) (by decide +kernel)) (by decide +kernel)
theorem mb_121 : (.fieldLink "PeriodWords" 147 "PeriodWords$Draft" "headLength" "I" : Cond) ∈ TB := tb_of (List.mem_of_getElem? (i := 121) (by decide +kernel)) (by decide +kernel)
theorem mb_122 : (.fieldLink "PeriodWords$Draft" 28 "PeriodWords$Draft" "ringLength" "I" : Cond) ∈ TB := tb_of (List.mem_of_getElem? (i := 122) (by decide +kernel)) (by decide +kernel)
theorem mb_123 : (.fieldLink "PeriodWords" 151 "PeriodWords$Draft" "ringLength" "I" : Cond) ∈ TB := tb_of (List.mem_of_getElem? (i := 123) (by decide +kernel)) (by decide +kernel)
theorem mb_124 : (.fieldLink "PeriodWords$Draft" 9 "PeriodWords$Draft" "how" "I" : Cond) ∈ TB := tb_of (List.mem_of_getElem? (i := 124) (by decide +kernel)) (by decide +kernel)
theorem mb_125 : (.fieldLink "PeriodWords$Draft" 15 "PeriodWords$Draft" "a" "LPeriodWords$Word;" : Cond) ∈ TB := tb_of (List.mem_of_getElem? (i := 125) (by decide +kernel)) (by decide +kernel)
theorem mb_126 : (.fieldLink "PeriodWords$Draft" 19 "PeriodWords$Draft" "b" "LPeriodWords$Word;" : Cond) ∈ TB := tb_of (List.mem_of_getElem? (i := 126) (by decide +kernel)) (by decide +kernel)
theorem mb_127 : (.fieldLink "PeriodWords$Draft" 22 "PeriodWords$Draft" "late" "I" : Cond) ∈ TB := tb_of (List.mem_of_getElem? (i := 127) (by decide +kernel)) (by decide +kernel)
theorem mb_141 : (.methodLink "PeriodWords" 84 ⟨"PeriodWords$Word", "tickOf", "(I)I"⟩ : Cond) ∈ TB := tb_of (List.mem_of_getElem? (i := 141) (by decide +kernel)) (by decide +kernel)
theorem mb_142 : (.instanceMethod ⟨"PeriodWords$Word", "tickOf", "(I)I"⟩ : Cond) ∈ TB := tb_of (List.mem_of_getElem? (i := 142) (by decide +kernel)) (by decide +kernel)
theorem mb_143 : (.selects "PeriodWords$Word" ⟨"PeriodWords$Word", "tickOf", "(I)I"⟩ ⟨"PeriodWords$Word", "tickOf", "(I)I"⟩ : Cond) ∈ TB := tb_of (List.mem_of_getElem? (i := 143) (by decide +kernel)) (by decide +kernel)
set_option maxRecDepth 20000 in
theorem mb_144 : (.code ⟨"PeriodWords$Word", "tickOf", "(I)I"⟩ prog_3_method_8_code 3 (some .int) : Cond) ∈ TB := tb_of (List.mem_of_getElem? (i := 144) rfl) rfl
theorem mb_145 : (.methodLink "PeriodWords$Word" 59 ⟨"PeriodWords$Word", "hasOne", "(I)Z"⟩ : Cond) ∈ TB := tb_of (List.mem_of_getElem? (i := 145) (by decide +kernel)) (by decide +kernel)
theorem mb_146 : (.instanceMethod ⟨"PeriodWords$Word", "hasOne", "(I)Z"⟩ : Cond) ∈ TB := tb_of (List.mem_of_getElem? (i := 146) (by decide +kernel)) (by decide +kernel)
theorem mb_147 : (.selects "PeriodWords$Word" ⟨"PeriodWords$Word", "hasOne", "(I)Z"⟩ ⟨"PeriodWords$Word", "hasOne", "(I)Z"⟩ : Cond) ∈ TB := tb_of (List.mem_of_getElem? (i := 147) (by decide +kernel)) (by decide +kernel)
set_option maxRecDepth 20000 in
theorem mb_148 : (.code ⟨"PeriodWords$Word", "hasOne", "(I)Z"⟩ prog_3_method_7_code 2 (some .boolean) : Cond) ∈ TB := tb_of (List.mem_of_getElem? (i := 148) rfl) rfl
theorem mb_149 : (.methodLink "PeriodWords" 127 ⟨"java/lang/Math", "max", "(II)I"⟩ : Cond) ∈ TB := tb_of (List.mem_of_getElem? (i := 149) (by decide +kernel)) (by decide +kernel)
theorem mb_150 : (.methodLink "PeriodWords" 58 ⟨"PeriodWords", "commonDivisor", "(II)I"⟩ : Cond) ∈ TB := tb_of (List.mem_of_getElem? (i := 150) (by decide +kernel)) (by decide +kernel)
theorem mb_151 : (.static ⟨"PeriodWords", "commonDivisor", "(II)I"⟩ : Cond) ∈ TB := tb_of (List.mem_of_getElem? (i := 151) (by decide +kernel)) (by decide +kernel)
set_option maxRecDepth 20000 in
theorem mb_152 : (.code ⟨"PeriodWords", "commonDivisor", "(II)I"⟩ prog_1_method_28_code 6 (some .int) : Cond) ∈ TB := tb_of (List.mem_of_getElem? (i := 152) rfl) rfl
theorem mb_153 : (.methodLink "PeriodWords" 119 ⟨"PeriodWords", "draftBy", "(LPeriodWords$Word;LPeriodWords$Word;)LPeriodWords$Draft;"⟩ : Cond) ∈ TB := tb_of (List.mem_of_getElem? (i := 153) (by decide +kernel)) (by decide +kernel)
theorem mb_154 : (.static ⟨"PeriodWords", "draftBy", "(LPeriodWords$Word;LPeriodWords$Word;)LPeriodWords$Draft;"⟩ : Cond) ∈ TB := tb_of (List.mem_of_getElem? (i := 154) (by decide +kernel)) (by decide +kernel)
set_option maxRecDepth 20000 in
theorem mb_155 : (.code ⟨"PeriodWords", "draftBy", "(LPeriodWords$Word;LPeriodWords$Word;)LPeriodWords$Draft;"⟩ prog_1_method_19_code 4 (some (.object "PeriodWords$Draft")) : Cond) ∈ TB := tb_of (List.mem_of_getElem? (i := 155) rfl) rfl
theorem mb_156 : (.methodLink "PeriodWords" 70 ⟨"PeriodWords$Word", "onesBefore", "(I)I"⟩ : Cond) ∈ TB := tb_of (List.mem_of_getElem? (i := 156) (by decide +kernel)) (by decide +kernel)
theorem mb_157 : (.instanceMethod ⟨"PeriodWords$Word", "onesBefore", "(I)I"⟩ : Cond) ∈ TB := tb_of (List.mem_of_getElem? (i := 157) (by decide +kernel)) (by decide +kernel)
theorem mb_158 : (.selects "PeriodWords$Word" ⟨"PeriodWords$Word", "onesBefore", "(I)I"⟩ ⟨"PeriodWords$Word", "onesBefore", "(I)I"⟩ : Cond) ∈ TB := tb_of (List.mem_of_getElem? (i := 158) (by decide +kernel)) (by decide +kernel)
set_option maxRecDepth 20000 in
theorem mb_159 : (.code ⟨"PeriodWords$Word", "onesBefore", "(I)I"⟩ prog_3_method_6_code 4 (some .int) : Cond) ∈ TB := tb_of (List.mem_of_getElem? (i := 159) rfl) rfl
theorem mb_160 : (.methodLink "PeriodWords" 132 ⟨"PeriodWords", "commonMultiple", "(II)I"⟩ : Cond) ∈ TB := tb_of (List.mem_of_getElem? (i := 160) (by decide +kernel)) (by decide +kernel)
theorem mb_161 : (.static ⟨"PeriodWords", "commonMultiple", "(II)I"⟩ : Cond) ∈ TB := tb_of (List.mem_of_getElem? (i := 161) (by decide +kernel)) (by decide +kernel)
set_option maxRecDepth 20000 in
theorem mb_162 : (.code ⟨"PeriodWords", "commonMultiple", "(II)I"⟩ prog_1_method_27_code 2 (some .int) : Cond) ∈ TB := tb_of (List.mem_of_getElem? (i := 162) rfl) rfl
theorem mb_163 : (.methodLink "PeriodWords" 26 ⟨"PeriodWords", "shortestForm", "(LPeriodWords$Draft;)LPeriodWords$Word;"⟩ : Cond) ∈ TB := tb_of (List.mem_of_getElem? (i := 163) (by decide +kernel)) (by decide +kernel)
theorem mb_164 : (.static ⟨"PeriodWords", "shortestForm", "(LPeriodWords$Draft;)LPeriodWords$Word;"⟩ : Cond) ∈ TB := tb_of (List.mem_of_getElem? (i := 164) (by decide +kernel)) (by decide +kernel)
set_option maxRecDepth 20000 in
theorem mb_165 : (.code ⟨"PeriodWords", "shortestForm", "(LPeriodWords$Draft;)LPeriodWords$Word;"⟩ prog_1_method_20_code 3 (some (.object "PeriodWords$Word")) : Cond) ∈ TB := tb_of (List.mem_of_getElem? (i := 165) rfl) rfl
theorem mb_166 : (.methodLink "PeriodWords" 135 ⟨"PeriodWords", "shortestRing", "(LPeriodWords$Draft;)I"⟩ : Cond) ∈ TB := tb_of (List.mem_of_getElem? (i := 166) (by decide +kernel)) (by decide +kernel)
theorem mb_167 : (.static ⟨"PeriodWords", "shortestRing", "(LPeriodWords$Draft;)I"⟩ : Cond) ∈ TB := tb_of (List.mem_of_getElem? (i := 167) (by decide +kernel)) (by decide +kernel)
set_option maxRecDepth 20000 in
theorem mb_168 : (.code ⟨"PeriodWords", "shortestRing", "(LPeriodWords$Draft;)I"⟩ prog_1_method_21_code 8 (some .int) : Cond) ∈ TB := tb_of (List.mem_of_getElem? (i := 168) rfl) rfl
theorem mb_169 : (.methodLink "PeriodWords" 148 ⟨"PeriodWords$Draft", "bitAt", "(I)I"⟩ : Cond) ∈ TB := tb_of (List.mem_of_getElem? (i := 169) (by decide +kernel)) (by decide +kernel)
theorem mb_170 : (.instanceMethod ⟨"PeriodWords$Draft", "bitAt", "(I)I"⟩ : Cond) ∈ TB := tb_of (List.mem_of_getElem? (i := 170) (by decide +kernel)) (by decide +kernel)
theorem mb_171 : (.selects "PeriodWords$Draft" ⟨"PeriodWords$Draft", "bitAt", "(I)I"⟩ ⟨"PeriodWords$Draft", "bitAt", "(I)I"⟩ : Cond) ∈ TB := tb_of (List.mem_of_getElem? (i := 171) (by decide +kernel)) (by decide +kernel)
set_option maxRecDepth 20000 in
theorem mb_172 : (.code ⟨"PeriodWords$Draft", "bitAt", "(I)I"⟩ prog_2_method_2_code 2 (some .int) : Cond) ∈ TB := tb_of (List.mem_of_getElem? (i := 172) rfl) rfl
theorem mb_173 : (.methodLink "PeriodWords$Draft" 31 ⟨"PeriodWords$Word", "bitAt", "(I)I"⟩ : Cond) ∈ TB := tb_of (List.mem_of_getElem? (i := 173) (by decide +kernel)) (by decide +kernel)
theorem mb_174 : (.instanceMethod ⟨"PeriodWords$Word", "bitAt", "(I)I"⟩ : Cond) ∈ TB := tb_of (List.mem_of_getElem? (i := 174) (by decide +kernel)) (by decide +kernel)
theorem mb_175 : (.selects "PeriodWords$Word" ⟨"PeriodWords$Word", "bitAt", "(I)I"⟩ ⟨"PeriodWords$Word", "bitAt", "(I)I"⟩ : Cond) ∈ TB := tb_of (List.mem_of_getElem? (i := 175) (by decide +kernel)) (by decide +kernel)
set_option maxRecDepth 20000 in
theorem mb_176 : (.code ⟨"PeriodWords$Word", "bitAt", "(I)I"⟩ prog_3_method_5_code 2 (some .int) : Cond) ∈ TB := tb_of (List.mem_of_getElem? (i := 176) rfl) rfl
theorem mb_177 : (.methodLink "PeriodWords$Draft" 37 ⟨"PeriodWords$Word", "onesBefore", "(I)I"⟩ : Cond) ∈ TB := tb_of (List.mem_of_getElem? (i := 177) (by decide +kernel)) (by decide +kernel)
theorem mb_178 : (.methodLink "PeriodWords$Draft" 40 ⟨"PeriodWords$Word", "tickOf", "(I)I"⟩ : Cond) ∈ TB := tb_of (List.mem_of_getElem? (i := 178) (by decide +kernel)) (by decide +kernel)
theorem mb_179 : (.constantLong "PeriodWords" 149 1152921504606846975 : Cond) ∈ TB := tb_of (List.mem_of_getElem? (i := 179) (by decide +kernel)) (by decide +kernel)
theorem mb_180 : (.constantLong "PeriodWords" 152 (-1) : Cond) ∈ TB := tb_of (List.mem_of_getElem? (i := 180) (by decide +kernel)) (by decide +kernel)
theorem mb_181 : (.methodLink "PeriodWords" 154 ⟨"java/lang/Long", "bitCount", "(J)I"⟩ : Cond) ∈ TB := tb_of (List.mem_of_getElem? (i := 181) (by decide +kernel)) (by decide +kernel)
theorem mb_182 : (.methodLink "PeriodWords" 139 ⟨"PeriodWords", "shortestHead", "(LPeriodWords$Draft;I)I"⟩ : Cond) ∈ TB := tb_of (List.mem_of_getElem? (i := 182) (by decide +kernel)) (by decide +kernel)
theorem mb_183 : (.static ⟨"PeriodWords", "shortestHead", "(LPeriodWords$Draft;I)I"⟩ : Cond) ∈ TB := tb_of (List.mem_of_getElem? (i := 183) (by decide +kernel)) (by decide +kernel)
set_option maxRecDepth 20000 in
theorem mb_184 : (.code ⟨"PeriodWords", "shortestHead", "(LPeriodWords$Draft;I)I"⟩ prog_1_method_22_code 3 (some .int) : Cond) ∈ TB := tb_of (List.mem_of_getElem? (i := 184) rfl) rfl
theorem mb_185 : (.methodLink "PeriodWords" 143 ⟨"PeriodWords$Draft", "bits", "(II)J"⟩ : Cond) ∈ TB := tb_of (List.mem_of_getElem? (i := 185) (by decide +kernel)) (by decide +kernel)
theorem mb_186 : (.instanceMethod ⟨"PeriodWords$Draft", "bits", "(II)J"⟩ : Cond) ∈ TB := tb_of (List.mem_of_getElem? (i := 186) (by decide +kernel)) (by decide +kernel)
theorem mb_187 : (.selects "PeriodWords$Draft" ⟨"PeriodWords$Draft", "bits", "(II)J"⟩ ⟨"PeriodWords$Draft", "bits", "(II)J"⟩ : Cond) ∈ TB := tb_of (List.mem_of_getElem? (i := 187) (by decide +kernel)) (by decide +kernel)
set_option maxRecDepth 20000 in
theorem mb_188 : (.code ⟨"PeriodWords$Draft", "bits", "(II)J"⟩ prog_2_method_3_code 6 (some .long) : Cond) ∈ TB := tb_of (List.mem_of_getElem? (i := 188) rfl) rfl
theorem mb_189 : (.methodLink "PeriodWords$Draft" 43 ⟨"PeriodWords$Draft", "bitAt", "(I)I"⟩ : Cond) ∈ TB := tb_of (List.mem_of_getElem? (i := 189) (by decide +kernel)) (by decide +kernel)
theorem mb_190 : (.methodLink "PeriodWords" 30 ⟨"PeriodWords", "keep", "(LPeriodWords$Word;)I"⟩ : Cond) ∈ TB := tb_of (List.mem_of_getElem? (i := 190) (by decide +kernel)) (by decide +kernel)
theorem mb_192 : (.instanceMethod ⟨"PeriodWords", "keep", "(LPeriodWords$Word;)I"⟩ : Cond) ∈ TB := tb_of (List.mem_of_getElem? (i := 192) (by decide +kernel)) (by decide +kernel)
set_option maxRecDepth 20000 in
theorem mb_193 : (.code ⟨"PeriodWords", "keep", "(LPeriodWords$Word;)I"⟩ prog_1_method_14_code 2 (some .int) : Cond) ∈ TB := tb_of (List.mem_of_getElem? (i := 193) rfl) rfl
theorem mb_194 : (.methodLink "PeriodWordsLaw" 45 ⟨"PeriodWords", "form", "(II)I"⟩ : Cond) ∈ TB := tb_of (List.mem_of_getElem? (i := 194) (by decide +kernel)) (by decide +kernel)
theorem mb_195 : (.instanceMethod ⟨"PeriodWords", "form", "(II)I"⟩ : Cond) ∈ TB := tb_of (List.mem_of_getElem? (i := 195) (by decide +kernel)) (by decide +kernel)
theorem mb_196 : (.selects "PeriodWords" ⟨"PeriodWords", "form", "(II)I"⟩ ⟨"PeriodWords", "form", "(II)I"⟩ : Cond) ∈ TB := tb_of (List.mem_of_getElem? (i := 196) (by decide +kernel)) (by decide +kernel)
set_option maxRecDepth 20000 in
theorem mb_197 : (.code ⟨"PeriodWords", "form", "(II)I"⟩ prog_1_method_4_code 4 (some .int) : Cond) ∈ TB := tb_of (List.mem_of_getElem? (i := 197) rfl) rfl
theorem mb_198 : (.methodLink "PeriodWords" 34 ⟨"PeriodWords", "find", "(I)LPeriodWords$Word;"⟩ : Cond) ∈ TB := tb_of (List.mem_of_getElem? (i := 198) (by decide +kernel)) (by decide +kernel)
theorem mb_200 : (.instanceMethod ⟨"PeriodWords", "find", "(I)LPeriodWords$Word;"⟩ : Cond) ∈ TB := tb_of (List.mem_of_getElem? (i := 200) (by decide +kernel)) (by decide +kernel)
set_option maxRecDepth 20000 in
theorem mb_201 : (.code ⟨"PeriodWords", "find", "(I)LPeriodWords$Word;"⟩ prog_1_method_13_code 2 (some (.object "PeriodWords$Word")) : Cond) ∈ TB := tb_of (List.mem_of_getElem? (i := 201) rfl) rfl
theorem mb_202 : (.methodLink "PeriodWordsLaw" 49 ⟨"PeriodWords", "bit", "(II)I"⟩ : Cond) ∈ TB := tb_of (List.mem_of_getElem? (i := 202) (by decide +kernel)) (by decide +kernel)
theorem mb_203 : (.instanceMethod ⟨"PeriodWords", "bit", "(II)I"⟩ : Cond) ∈ TB := tb_of (List.mem_of_getElem? (i := 203) (by decide +kernel)) (by decide +kernel)
theorem mb_204 : (.selects "PeriodWords" ⟨"PeriodWords", "bit", "(II)I"⟩ ⟨"PeriodWords", "bit", "(II)I"⟩ : Cond) ∈ TB := tb_of (List.mem_of_getElem? (i := 204) (by decide +kernel)) (by decide +kernel)
set_option maxRecDepth 20000 in
theorem mb_205 : (.code ⟨"PeriodWords", "bit", "(II)I"⟩ prog_1_method_5_code 4 (some .int) : Cond) ∈ TB := tb_of (List.mem_of_getElem? (i := 205) rfl) rfl
theorem mb_206 : (.constant "PeriodWords" 65 1000000000 : Cond) ∈ TB := tb_of (List.mem_of_getElem? (i := 206) (by decide +kernel)) (by decide +kernel)
theorem mb_207 : (.methodLink "PeriodWords" 66 ⟨"PeriodWords$Word", "bitAt", "(I)I"⟩ : Cond) ∈ TB := tb_of (List.mem_of_getElem? (i := 207) (by decide +kernel)) (by decide +kernel)
theorem mb_208 : (.methodLink "PeriodWordsLaw" 53 ⟨"PeriodWords", "ones", "(II)I"⟩ : Cond) ∈ TB := tb_of (List.mem_of_getElem? (i := 208) (by decide +kernel)) (by decide +kernel)
theorem mb_209 : (.instanceMethod ⟨"PeriodWords", "ones", "(II)I"⟩ : Cond) ∈ TB := tb_of (List.mem_of_getElem? (i := 209) (by decide +kernel)) (by decide +kernel)
theorem mb_210 : (.selects "PeriodWords" ⟨"PeriodWords", "ones", "(II)I"⟩ ⟨"PeriodWords", "ones", "(II)I"⟩ : Cond) ∈ TB := tb_of (List.mem_of_getElem? (i := 210) (by decide +kernel)) (by decide +kernel)
set_option maxRecDepth 20000 in
theorem mb_211 : (.code ⟨"PeriodWords", "ones", "(II)I"⟩ prog_1_method_6_code 4 (some .int) : Cond) ∈ TB := tb_of (List.mem_of_getElem? (i := 211) rfl) rfl
theorem mb_212 : (.methodLink "PeriodWordsLaw" 61 ⟨"PeriodWords", "same", "(I)I"⟩ : Cond) ∈ TB := tb_of (List.mem_of_getElem? (i := 212) (by decide +kernel)) (by decide +kernel)
theorem mb_213 : (.instanceMethod ⟨"PeriodWords", "same", "(I)I"⟩ : Cond) ∈ TB := tb_of (List.mem_of_getElem? (i := 213) (by decide +kernel)) (by decide +kernel)
theorem mb_214 : (.selects "PeriodWords" ⟨"PeriodWords", "same", "(I)I"⟩ ⟨"PeriodWords", "same", "(I)I"⟩ : Cond) ∈ TB := tb_of (List.mem_of_getElem? (i := 214) (by decide +kernel)) (by decide +kernel)
set_option maxRecDepth 20000 in
theorem mb_215 : (.code ⟨"PeriodWords", "same", "(I)I"⟩ prog_1_method_8_code 4 (some .int) : Cond) ∈ TB := tb_of (List.mem_of_getElem? (i := 215) rfl) rfl
theorem mb_216 : (.methodLink "PeriodWords" 87 ⟨"PeriodWords", "alike", "(LPeriodWords$Word;LPeriodWords$Word;)Z"⟩ : Cond) ∈ TB := tb_of (List.mem_of_getElem? (i := 216) (by decide +kernel)) (by decide +kernel)
theorem mb_217 : (.static ⟨"PeriodWords", "alike", "(LPeriodWords$Word;LPeriodWords$Word;)Z"⟩ : Cond) ∈ TB := tb_of (List.mem_of_getElem? (i := 217) (by decide +kernel)) (by decide +kernel)
set_option maxRecDepth 20000 in
theorem mb_218 : (.code ⟨"PeriodWords", "alike", "(LPeriodWords$Word;LPeriodWords$Word;)Z"⟩ prog_1_method_16_code 2 (some .boolean) : Cond) ∈ TB := tb_of (List.mem_of_getElem? (i := 218) rfl) rfl
theorem mb_219 : (.methodLink "PeriodWordsLaw" 66 ⟨"PeriodWords", "ahead", "(II)Z"⟩ : Cond) ∈ TB := tb_of (List.mem_of_getElem? (i := 219) (by decide +kernel)) (by decide +kernel)
theorem mb_220 : (.instanceMethod ⟨"PeriodWords", "ahead", "(II)Z"⟩ : Cond) ∈ TB := tb_of (List.mem_of_getElem? (i := 220) (by decide +kernel)) (by decide +kernel)
theorem mb_221 : (.selects "PeriodWords" ⟨"PeriodWords", "ahead", "(II)Z"⟩ ⟨"PeriodWords", "ahead", "(II)Z"⟩ : Cond) ∈ TB := tb_of (List.mem_of_getElem? (i := 221) (by decide +kernel)) (by decide +kernel)
set_option maxRecDepth 20000 in
theorem mb_222 : (.code ⟨"PeriodWords", "ahead", "(II)Z"⟩ prog_1_method_9_code 5 (some .boolean) : Cond) ∈ TB := tb_of (List.mem_of_getElem? (i := 222) rfl) rfl
theorem mb_223 : (.methodLink "PeriodWords" 91 ⟨"PeriodWords", "leastWait", "(LPeriodWords$Word;LPeriodWords$Word;)I"⟩ : Cond) ∈ TB := tb_of (List.mem_of_getElem? (i := 223) (by decide +kernel)) (by decide +kernel)
theorem mb_224 : (.static ⟨"PeriodWords", "leastWait", "(LPeriodWords$Word;LPeriodWords$Word;)I"⟩ : Cond) ∈ TB := tb_of (List.mem_of_getElem? (i := 224) (by decide +kernel)) (by decide +kernel)
set_option maxRecDepth 20000 in
theorem mb_225 : (.code ⟨"PeriodWords", "leastWait", "(LPeriodWords$Word;LPeriodWords$Word;)I"⟩ prog_1_method_25_code 3 (some .int) : Cond) ∈ TB := tb_of (List.mem_of_getElem? (i := 225) rfl) rfl
theorem mb_226 : (.methodLink "PeriodWords" 79 ⟨"PeriodWords$Word", "hasOne", "(I)Z"⟩ : Cond) ∈ TB := tb_of (List.mem_of_getElem? (i := 226) (by decide +kernel)) (by decide +kernel)
theorem mb_227 : (.methodLink "PeriodWords" 165 ⟨"PeriodWords", "mostBehind", "(LPeriodWords$Word;LPeriodWords$Word;I)I"⟩ : Cond) ∈ TB := tb_of (List.mem_of_getElem? (i := 227) (by decide +kernel)) (by decide +kernel)
theorem mb_228 : (.static ⟨"PeriodWords", "mostBehind", "(LPeriodWords$Word;LPeriodWords$Word;I)I"⟩ : Cond) ∈ TB := tb_of (List.mem_of_getElem? (i := 228) (by decide +kernel)) (by decide +kernel)
set_option maxRecDepth 20000 in
theorem mb_229 : (.code ⟨"PeriodWords", "mostBehind", "(LPeriodWords$Word;LPeriodWords$Word;I)I"⟩ prog_1_method_26_code 5 (some .int) : Cond) ∈ TB := tb_of (List.mem_of_getElem? (i := 229) rfl) rfl
theorem mb_230 : (.methodLink "PeriodWords" 100 ⟨"PeriodWords", "compareRates", "(LPeriodWords$Word;LPeriodWords$Word;)I"⟩ : Cond) ∈ TB := tb_of (List.mem_of_getElem? (i := 230) (by decide +kernel)) (by decide +kernel)
theorem mb_231 : (.static ⟨"PeriodWords", "compareRates", "(LPeriodWords$Word;LPeriodWords$Word;)I"⟩ : Cond) ∈ TB := tb_of (List.mem_of_getElem? (i := 231) (by decide +kernel)) (by decide +kernel)
set_option maxRecDepth 20000 in
theorem mb_232 : (.code ⟨"PeriodWords", "compareRates", "(LPeriodWords$Word;LPeriodWords$Word;)I"⟩ prog_1_method_23_code 2 (some .int) : Cond) ∈ TB := tb_of (List.mem_of_getElem? (i := 232) rfl) rfl
theorem mb_233 : (.methodLink "PeriodWords" 160 ⟨"java/lang/Integer", "compare", "(II)I"⟩ : Cond) ∈ TB := tb_of (List.mem_of_getElem? (i := 233) (by decide +kernel)) (by decide +kernel)
theorem mb_234 : (.static ⟨"java/lang/Integer", "compare", "(II)I"⟩ : Cond) ∈ TB := tb_of (List.mem_of_getElem? (i := 234) (by decide +kernel)) (by decide +kernel)
set_option maxRecDepth 20000 in
theorem mb_235 : (.code ⟨"java/lang/Integer", "compare", "(II)I"⟩ prog_9_method_40_code 2 (some .int) : Cond) ∈ TB := tb_of (List.mem_of_getElem? (i := 235) rfl) rfl
theorem mb_236 : (.methodLink "PeriodWordsLaw" 74 ⟨"PeriodWords", "clear", "()V"⟩ : Cond) ∈ TB := tb_of (List.mem_of_getElem? (i := 236) (by decide +kernel)) (by decide +kernel)
theorem mb_237 : (.instanceMethod ⟨"PeriodWords", "clear", "()V"⟩ : Cond) ∈ TB := tb_of (List.mem_of_getElem? (i := 237) (by decide +kernel)) (by decide +kernel)
theorem mb_238 : (.selects "PeriodWords" ⟨"PeriodWords", "clear", "()V"⟩ ⟨"PeriodWords", "clear", "()V"⟩ : Cond) ∈ TB := tb_of (List.mem_of_getElem? (i := 238) (by decide +kernel)) (by decide +kernel)
set_option maxRecDepth 20000 in
theorem mb_239 : (.code ⟨"PeriodWords", "clear", "()V"⟩ prog_1_method_11_code 2 none : Cond) ∈ TB := tb_of (List.mem_of_getElem? (i := 239) rfl) rfl
theorem mb_240 : (.methodLink "PeriodWordsLaw" 78 ⟨"PeriodWords", "total", "()I"⟩ : Cond) ∈ TB := tb_of (List.mem_of_getElem? (i := 240) (by decide +kernel)) (by decide +kernel)
theorem mb_241 : (.instanceMethod ⟨"PeriodWords", "total", "()I"⟩ : Cond) ∈ TB := tb_of (List.mem_of_getElem? (i := 241) (by decide +kernel)) (by decide +kernel)
theorem mb_242 : (.selects "PeriodWords" ⟨"PeriodWords", "total", "()I"⟩ ⟨"PeriodWords", "total", "()I"⟩ : Cond) ∈ TB := tb_of (List.mem_of_getElem? (i := 242) (by decide +kernel)) (by decide +kernel)
set_option maxRecDepth 20000 in
theorem mb_243 : (.code ⟨"PeriodWords", "total", "()I"⟩ prog_1_method_12_code 1 (some .int) : Cond) ∈ TB := tb_of (List.mem_of_getElem? (i := 243) rfl) rfl
theorem mb_244 : (.methodLink "PeriodWordsLaw" 35 ⟨"PeriodWordsLaw", "make", "(LPeriodWords;III[J)I"⟩ : Cond) ∈ TB := tb_of (List.mem_of_getElem? (i := 244) (by decide +kernel)) (by decide +kernel)
theorem mb_245 : (.static ⟨"PeriodWordsLaw", "make", "(LPeriodWords;III[J)I"⟩ : Cond) ∈ TB := tb_of (List.mem_of_getElem? (i := 245) (by decide +kernel)) (by decide +kernel)
set_option maxRecDepth 20000 in
theorem mb_246 : (.codeWith ⟨"PeriodWordsLaw", "make", "(LPeriodWords;III[J)I"⟩ method_3_code 6 (some .int) [(0, 12, 15, 13)] : Cond) ∈ TB := tb_of (List.mem_of_getElem? (i := 246) rfl) rfl
theorem mb_247 : (.classLink "PeriodWordsLaw" 13 "java/lang/IllegalArgumentException" : Cond) ∈ TB := tb_of (List.mem_of_getElem? (i := 247) (by decide +kernel)) (by decide +kernel)
theorem mb_248 : (.methodLink "PeriodWordsLaw" 7 ⟨"PeriodWords", "make", "(III)I"⟩ : Cond) ∈ TB := tb_of (List.mem_of_getElem? (i := 248) (by decide +kernel)) (by decide +kernel)
theorem mb_249 : (.instanceMethod ⟨"PeriodWords", "make", "(III)I"⟩ : Cond) ∈ TB := tb_of (List.mem_of_getElem? (i := 249) (by decide +kernel)) (by decide +kernel)
theorem mb_250 : (.selects "PeriodWords" ⟨"PeriodWords", "make", "(III)I"⟩ ⟨"PeriodWords", "make", "(III)I"⟩ : Cond) ∈ TB := tb_of (List.mem_of_getElem? (i := 250) (by decide +kernel)) (by decide +kernel)
set_option maxRecDepth 20000 in
theorem mb_251 : (.code ⟨"PeriodWords", "make", "(III)I"⟩ prog_1_method_3_code 6 (some .int) : Cond) ∈ TB := tb_of (List.mem_of_getElem? (i := 251) rfl) rfl
theorem mb_252 : (.methodLink "PeriodWords" 38 ⟨"PeriodWords", "needsTwoWords", "(I)Z"⟩ : Cond) ∈ TB := tb_of (List.mem_of_getElem? (i := 252) (by decide +kernel)) (by decide +kernel)
theorem mb_253 : (.static ⟨"PeriodWords", "needsTwoWords", "(I)Z"⟩ : Cond) ∈ TB := tb_of (List.mem_of_getElem? (i := 253) (by decide +kernel)) (by decide +kernel)
set_option maxRecDepth 20000 in
theorem mb_254 : (.code ⟨"PeriodWords", "needsTwoWords", "(I)Z"⟩ prog_1_method_15_code 1 (some .boolean) : Cond) ∈ TB := tb_of (List.mem_of_getElem? (i := 254) rfl) rfl
theorem mb_255 : (.classLink "PeriodWords" 45 "java/lang/IllegalArgumentException" : Cond) ∈ TB := tb_of (List.mem_of_getElem? (i := 255) (by decide +kernel)) (by decide +kernel)
theorem mb_256 : (.instantiable "java/lang/IllegalArgumentException" 6 : Cond) ∈ TB := tb_of (List.mem_of_getElem? (i := 256) (by decide +kernel)) (by decide +kernel)
theorem mb_297 : (.methodLink "PeriodWords" 49 ⟨"java/lang/IllegalArgumentException", "<init>", "(Ljava/lang/String;)V"⟩ : Cond) ∈ TB := tb_of (List.mem_of_getElem? (i := 297) (by decide +kernel)) (by decide +kernel)
theorem mb_298 : (.instanceMethod ⟨"java/lang/IllegalArgumentException", "<init>", "(Ljava/lang/String;)V"⟩ : Cond) ∈ TB := tb_of (List.mem_of_getElem? (i := 298) (by decide +kernel)) (by decide +kernel)
set_option maxRecDepth 20000 in
theorem mb_299 : (.code ⟨"java/lang/IllegalArgumentException", "<init>", "(Ljava/lang/String;)V"⟩ prog_8_method_2_code 2 none : Cond) ∈ TB := tb_of (List.mem_of_getElem? (i := 299) rfl) rfl
theorem mb_300 : (.methodLink "java/lang/IllegalArgumentException" 7 ⟨"java/lang/RuntimeException", "<init>", "(Ljava/lang/String;)V"⟩ : Cond) ∈ TB := tb_of (List.mem_of_getElem? (i := 300) (by decide +kernel)) (by decide +kernel)
theorem mb_301 : (.instanceMethod ⟨"java/lang/RuntimeException", "<init>", "(Ljava/lang/String;)V"⟩ : Cond) ∈ TB := tb_of (List.mem_of_getElem? (i := 301) (by decide +kernel)) (by decide +kernel)
set_option maxRecDepth 20000 in
theorem mb_302 : (.code ⟨"java/lang/RuntimeException", "<init>", "(Ljava/lang/String;)V"⟩ prog_12_method_2_code 2 none : Cond) ∈ TB := tb_of (List.mem_of_getElem? (i := 302) rfl) rfl
theorem mb_303 : (.methodLink "java/lang/RuntimeException" 7 ⟨"java/lang/Exception", "<init>", "(Ljava/lang/String;)V"⟩ : Cond) ∈ TB := tb_of (List.mem_of_getElem? (i := 303) (by decide +kernel)) (by decide +kernel)
theorem mb_304 : (.instanceMethod ⟨"java/lang/Exception", "<init>", "(Ljava/lang/String;)V"⟩ : Cond) ∈ TB := tb_of (List.mem_of_getElem? (i := 304) (by decide +kernel)) (by decide +kernel)
set_option maxRecDepth 20000 in
theorem mb_305 : (.code ⟨"java/lang/Exception", "<init>", "(Ljava/lang/String;)V"⟩ prog_7_method_2_code 2 none : Cond) ∈ TB := tb_of (List.mem_of_getElem? (i := 305) rfl) rfl
theorem mb_322 : (.arrayClass .byte : Cond) ∈ TB := tb_of (List.mem_of_getElem? (i := 322) (by decide +kernel)) (by decide +kernel)
theorem mb_323 : (.methodLink "PeriodWordsLaw" 57 ⟨"PeriodWordsLaw", "at", "(LPeriodWords;II[J)I"⟩ : Cond) ∈ TB := tb_of (List.mem_of_getElem? (i := 323) (by decide +kernel)) (by decide +kernel)
theorem mb_324 : (.static ⟨"PeriodWordsLaw", "at", "(LPeriodWords;II[J)I"⟩ : Cond) ∈ TB := tb_of (List.mem_of_getElem? (i := 324) (by decide +kernel)) (by decide +kernel)
set_option maxRecDepth 20000 in
theorem mb_325 : (.codeWith ⟨"PeriodWordsLaw", "at", "(LPeriodWords;II[J)I"⟩ method_4_code 5 (some .int) [(0, 10, 13, 19)] : Cond) ∈ TB := tb_of (List.mem_of_getElem? (i := 325) rfl) rfl
theorem mb_326 : (.classLink "PeriodWordsLaw" 19 "java/util/NoSuchElementException" : Cond) ∈ TB := tb_of (List.mem_of_getElem? (i := 326) (by decide +kernel)) (by decide +kernel)
theorem mb_327 : (.methodLink "PeriodWordsLaw" 15 ⟨"PeriodWords", "at", "(II)I"⟩ : Cond) ∈ TB := tb_of (List.mem_of_getElem? (i := 327) (by decide +kernel)) (by decide +kernel)
theorem mb_328 : (.instanceMethod ⟨"PeriodWords", "at", "(II)I"⟩ : Cond) ∈ TB := tb_of (List.mem_of_getElem? (i := 328) (by decide +kernel)) (by decide +kernel)
theorem mb_329 : (.selects "PeriodWords" ⟨"PeriodWords", "at", "(II)I"⟩ ⟨"PeriodWords", "at", "(II)I"⟩ : Cond) ∈ TB := tb_of (List.mem_of_getElem? (i := 329) (by decide +kernel)) (by decide +kernel)
set_option maxRecDepth 20000 in
theorem mb_330 : (.code ⟨"PeriodWords", "at", "(II)I"⟩ prog_1_method_7_code 4 (some .int) : Cond) ∈ TB := tb_of (List.mem_of_getElem? (i := 330) rfl) rfl
theorem mb_331 : (.classLink "PeriodWords" 73 "java/util/NoSuchElementException" : Cond) ∈ TB := tb_of (List.mem_of_getElem? (i := 331) (by decide +kernel)) (by decide +kernel)
theorem mb_332 : (.instantiable "java/util/NoSuchElementException" 6 : Cond) ∈ TB := tb_of (List.mem_of_getElem? (i := 332) (by decide +kernel)) (by decide +kernel)
theorem mb_341 : (.methodLink "PeriodWords" 77 ⟨"java/util/NoSuchElementException", "<init>", "(Ljava/lang/String;)V"⟩ : Cond) ∈ TB := tb_of (List.mem_of_getElem? (i := 341) (by decide +kernel)) (by decide +kernel)
theorem mb_342 : (.instanceMethod ⟨"java/util/NoSuchElementException", "<init>", "(Ljava/lang/String;)V"⟩ : Cond) ∈ TB := tb_of (List.mem_of_getElem? (i := 342) (by decide +kernel)) (by decide +kernel)
set_option maxRecDepth 20000 in
theorem mb_343 : (.code ⟨"java/util/NoSuchElementException", "<init>", "(Ljava/lang/String;)V"⟩ prog_15_method_4_code 2 none : Cond) ∈ TB := tb_of (List.mem_of_getElem? (i := 343) rfl) rfl
theorem mb_344 : (.methodLink "java/util/NoSuchElementException" 13 ⟨"java/lang/RuntimeException", "<init>", "(Ljava/lang/String;)V"⟩ : Cond) ∈ TB := tb_of (List.mem_of_getElem? (i := 344) (by decide +kernel)) (by decide +kernel)
theorem mb_347 : (.constant "PeriodWords" 78 1000000 : Cond) ∈ TB := tb_of (List.mem_of_getElem? (i := 347) (by decide +kernel)) (by decide +kernel)
theorem mb_349 : (.methodLink "PeriodWordsLaw" 71 ⟨"PeriodWordsLaw", "between", "(LPeriodWords;III[J)I"⟩ : Cond) ∈ TB := tb_of (List.mem_of_getElem? (i := 349) (by decide +kernel)) (by decide +kernel)
theorem mb_350 : (.static ⟨"PeriodWordsLaw", "between", "(LPeriodWords;III[J)I"⟩ : Cond) ∈ TB := tb_of (List.mem_of_getElem? (i := 350) (by decide +kernel)) (by decide +kernel)
set_option maxRecDepth 20000 in
theorem mb_351 : (.codeWith ⟨"PeriodWordsLaw", "between", "(LPeriodWords;III[J)I"⟩ method_5_code 6 (some .int) [(0, 12, 15, 24)] : Cond) ∈ TB := tb_of (List.mem_of_getElem? (i := 351) rfl) rfl
theorem mb_352 : (.classLink "PeriodWordsLaw" 24 "java/lang/ArithmeticException" : Cond) ∈ TB := tb_of (List.mem_of_getElem? (i := 352) (by decide +kernel)) (by decide +kernel)
theorem mb_353 : (.methodLink "PeriodWordsLaw" 21 ⟨"PeriodWords", "between", "(III)I"⟩ : Cond) ∈ TB := tb_of (List.mem_of_getElem? (i := 353) (by decide +kernel)) (by decide +kernel)
theorem mb_354 : (.instanceMethod ⟨"PeriodWords", "between", "(III)I"⟩ : Cond) ∈ TB := tb_of (List.mem_of_getElem? (i := 354) (by decide +kernel)) (by decide +kernel)
theorem mb_355 : (.selects "PeriodWords" ⟨"PeriodWords", "between", "(III)I"⟩ ⟨"PeriodWords", "between", "(III)I"⟩ : Cond) ∈ TB := tb_of (List.mem_of_getElem? (i := 355) (by decide +kernel)) (by decide +kernel)
set_option maxRecDepth 20000 in
theorem mb_356 : (.code ⟨"PeriodWords", "between", "(III)I"⟩ prog_1_method_10_code 7 (some .int) : Cond) ∈ TB := tb_of (List.mem_of_getElem? (i := 356) rfl) rfl
theorem mb_357 : (.classLink "PeriodWords" 95 "java/lang/ArithmeticException" : Cond) ∈ TB := tb_of (List.mem_of_getElem? (i := 357) (by decide +kernel)) (by decide +kernel)
theorem mb_358 : (.instantiable "java/lang/ArithmeticException" 6 : Cond) ∈ TB := tb_of (List.mem_of_getElem? (i := 358) (by decide +kernel)) (by decide +kernel)
theorem mb_367 : (.methodLink "PeriodWords" 99 ⟨"java/lang/ArithmeticException", "<init>", "(Ljava/lang/String;)V"⟩ : Cond) ∈ TB := tb_of (List.mem_of_getElem? (i := 367) (by decide +kernel)) (by decide +kernel)
theorem mb_368 : (.instanceMethod ⟨"java/lang/ArithmeticException", "<init>", "(Ljava/lang/String;)V"⟩ : Cond) ∈ TB := tb_of (List.mem_of_getElem? (i := 368) (by decide +kernel)) (by decide +kernel)
set_option maxRecDepth 20000 in
theorem mb_369 : (.code ⟨"java/lang/ArithmeticException", "<init>", "(Ljava/lang/String;)V"⟩ prog_6_method_2_code 2 none : Cond) ∈ TB := tb_of (List.mem_of_getElem? (i := 369) rfl) rfl
theorem mb_370 : (.methodLink "java/lang/ArithmeticException" 7 ⟨"java/lang/RuntimeException", "<init>", "(Ljava/lang/String;)V"⟩ : Cond) ∈ TB := tb_of (List.mem_of_getElem? (i := 370) (by decide +kernel)) (by decide +kernel)
theorem mb_374 : (.methodLink "PeriodWords" 105 ⟨"PeriodWords", "mostKept", "(LPeriodWords$Word;LPeriodWords$Word;)I"⟩ : Cond) ∈ TB := tb_of (List.mem_of_getElem? (i := 374) (by decide +kernel)) (by decide +kernel)
theorem mb_375 : (.static ⟨"PeriodWords", "mostKept", "(LPeriodWords$Word;LPeriodWords$Word;)I"⟩ : Cond) ∈ TB := tb_of (List.mem_of_getElem? (i := 375) (by decide +kernel)) (by decide +kernel)
set_option maxRecDepth 20000 in
theorem mb_376 : (.code ⟨"PeriodWords", "mostKept", "(LPeriodWords$Word;LPeriodWords$Word;)I"⟩ prog_1_method_24_code 6 (some .int) : Cond) ∈ TB := tb_of (List.mem_of_getElem? (i := 376) rfl) rfl
theorem mb_377 : (.classLink "PeriodWordsLaw" 27 "PeriodWordsModel" : Cond) ∈ TB := tb_of (List.mem_of_getElem? (i := 377) (by decide +kernel)) (by decide +kernel)
theorem mb_378 : (.instantiable "PeriodWordsModel" 9 : Cond) ∈ TB := tb_of (List.mem_of_getElem? (i := 378) (by decide +kernel)) (by decide +kernel)
theorem mb_379 : (.methodLink "PeriodWordsLaw" 29 ⟨"PeriodWordsModel", "<init>", "()V"⟩ : Cond) ∈ TB := tb_of (List.mem_of_getElem? (i := 379) (by decide +kernel)) (by decide +kernel)
theorem mb_380 : (.instanceMethod ⟨"PeriodWordsModel", "<init>", "()V"⟩ : Cond) ∈ TB := tb_of (List.mem_of_getElem? (i := 380) (by decide +kernel)) (by decide +kernel)
set_option maxRecDepth 20000 in
theorem mb_381 : (.code ⟨"PeriodWordsModel", "<init>", "()V"⟩ prog_5_method_1_code 1 none : Cond) ∈ TB := tb_of (List.mem_of_getElem? (i := 381) rfl) rfl
theorem mb_382 : (.methodLink "PeriodWordsModel" 1 ⟨"java/lang/Object", "<init>", "()V"⟩ : Cond) ∈ TB := tb_of (List.mem_of_getElem? (i := 382) (by decide +kernel)) (by decide +kernel)
theorem mb_383 : (.fieldLink "PeriodWordsModel" 27 "PeriodWordsModel" "thrown" "I" : Cond) ∈ TB := tb_of (List.mem_of_getElem? (i := 383) (by decide +kernel)) (by decide +kernel)
theorem mb_384 : (.fieldLink "PeriodWordsModel" 31 "PeriodWordsModel" "words" "I" : Cond) ∈ TB := tb_of (List.mem_of_getElem? (i := 384) (by decide +kernel)) (by decide +kernel)
theorem mb_385 : (.fieldLink "PeriodWordsModel" 7 "PeriodWordsModel" "head" "[I" : Cond) ∈ TB := tb_of (List.mem_of_getElem? (i := 385) (by decide +kernel)) (by decide +kernel)
theorem mb_386 : (.fieldLink "PeriodWordsModel" 13 "PeriodWordsModel" "ring" "[I" : Cond) ∈ TB := tb_of (List.mem_of_getElem? (i := 386) (by decide +kernel)) (by decide +kernel)
theorem mb_387 : (.fieldLink "PeriodWordsModel" 16 "PeriodWordsModel" "headBits" "[J" : Cond) ∈ TB := tb_of (List.mem_of_getElem? (i := 387) (by decide +kernel)) (by decide +kernel)
theorem mb_388 : (.fieldLink "PeriodWordsModel" 20 "PeriodWordsModel" "ringBits" "[J" : Cond) ∈ TB := tb_of (List.mem_of_getElem? (i := 388) (by decide +kernel)) (by decide +kernel)
theorem mb_389 : (.fieldLink "PeriodWordsModel" 23 "PeriodWordsModel" "bits" "[Z" : Cond) ∈ TB := tb_of (List.mem_of_getElem? (i := 389) (by decide +kernel)) (by decide +kernel)
theorem mb_390 : (.fieldLink "PeriodWordsModel" 98 "PeriodWordsModel" "most" "I" : Cond) ∈ TB := tb_of (List.mem_of_getElem? (i := 390) (by decide +kernel)) (by decide +kernel)
theorem mb_391 : (.fieldLink "PeriodWordsModel" 101 "PeriodWordsModel" "least" "I" : Cond) ∈ TB := tb_of (List.mem_of_getElem? (i := 391) (by decide +kernel)) (by decide +kernel)
theorem mb_411 : (.arrayClass .long : Cond) ∈ TB := tb_of (List.mem_of_getElem? (i := 411) (by decide +kernel)) (by decide +kernel)
theorem mb_412 : (.arrayClass .boolean : Cond) ∈ TB := tb_of (List.mem_of_getElem? (i := 412) (by decide +kernel)) (by decide +kernel)
theorem mb_413 : (.methodLink "PeriodWordsLaw" 41 ⟨"PeriodWordsModel", "thrown", "()I"⟩ : Cond) ∈ TB := tb_of (List.mem_of_getElem? (i := 413) (by decide +kernel)) (by decide +kernel)
theorem mb_414 : (.instanceMethod ⟨"PeriodWordsModel", "thrown", "()I"⟩ : Cond) ∈ TB := tb_of (List.mem_of_getElem? (i := 414) (by decide +kernel)) (by decide +kernel)
theorem mb_415 : (.selects "PeriodWordsModel" ⟨"PeriodWordsModel", "thrown", "()I"⟩ ⟨"PeriodWordsModel", "thrown", "()I"⟩ : Cond) ∈ TB := tb_of (List.mem_of_getElem? (i := 415) (by decide +kernel)) (by decide +kernel)
set_option maxRecDepth 20000 in
theorem mb_416 : (.code ⟨"PeriodWordsModel", "thrown", "()I"⟩ prog_5_method_2_code 1 (some .int) : Cond) ∈ TB := tb_of (List.mem_of_getElem? (i := 416) rfl) rfl
theorem mb_417 : (.methodLink "PeriodWordsLaw" 34 ⟨"PeriodWordsModel", "word", "(IIII)I"⟩ : Cond) ∈ TB := tb_of (List.mem_of_getElem? (i := 417) (by decide +kernel)) (by decide +kernel)
theorem mb_418 : (.instanceMethod ⟨"PeriodWordsModel", "word", "(IIII)I"⟩ : Cond) ∈ TB := tb_of (List.mem_of_getElem? (i := 418) (by decide +kernel)) (by decide +kernel)
theorem mb_419 : (.selects "PeriodWordsModel" ⟨"PeriodWordsModel", "word", "(IIII)I"⟩ ⟨"PeriodWordsModel", "word", "(IIII)I"⟩ : Cond) ∈ TB := tb_of (List.mem_of_getElem? (i := 419) (by decide +kernel)) (by decide +kernel)
set_option maxRecDepth 20000 in
theorem mb_420 : (.code ⟨"PeriodWordsModel", "word", "(IIII)I"⟩ prog_5_method_11_code 6 (some .int) : Cond) ∈ TB := tb_of (List.mem_of_getElem? (i := 420) rfl) rfl
theorem mb_421 : (.methodLink "PeriodWordsModel" 34 ⟨"PeriodWordsModel", "in", "(III)Z"⟩ : Cond) ∈ TB := tb_of (List.mem_of_getElem? (i := 421) (by decide +kernel)) (by decide +kernel)
theorem mb_422 : (.static ⟨"PeriodWordsModel", "in", "(III)Z"⟩ : Cond) ∈ TB := tb_of (List.mem_of_getElem? (i := 422) (by decide +kernel)) (by decide +kernel)
set_option maxRecDepth 20000 in
theorem mb_423 : (.code ⟨"PeriodWordsModel", "in", "(III)Z"⟩ prog_5_method_4_code 3 (some .boolean) : Cond) ∈ TB := tb_of (List.mem_of_getElem? (i := 423) rfl) rfl
theorem mb_424 : (.methodLink "PeriodWordsModel" 45 ⟨"PeriodWordsModel", "settle", "(II)I"⟩ : Cond) ∈ TB := tb_of (List.mem_of_getElem? (i := 424) (by decide +kernel)) (by decide +kernel)
theorem mb_426 : (.instanceMethod ⟨"PeriodWordsModel", "settle", "(II)I"⟩ : Cond) ∈ TB := tb_of (List.mem_of_getElem? (i := 426) (by decide +kernel)) (by decide +kernel)
set_option maxRecDepth 20000 in
theorem mb_427 : (.code ⟨"PeriodWordsModel", "settle", "(II)I"⟩ prog_5_method_9_code 6 (some .int) : Cond) ∈ TB := tb_of (List.mem_of_getElem? (i := 427) rfl) rfl
theorem mb_428 : (.methodLink "PeriodWordsModel" 42 ⟨"PeriodWordsModel", "comesBack", "(III)Z"⟩ : Cond) ∈ TB := tb_of (List.mem_of_getElem? (i := 428) (by decide +kernel)) (by decide +kernel)
theorem mb_430 : (.instanceMethod ⟨"PeriodWordsModel", "comesBack", "(III)Z"⟩ : Cond) ∈ TB := tb_of (List.mem_of_getElem? (i := 430) (by decide +kernel)) (by decide +kernel)
set_option maxRecDepth 20000 in
theorem mb_431 : (.code ⟨"PeriodWordsModel", "comesBack", "(III)Z"⟩ prog_5_method_10_code 5 (some .boolean) : Cond) ∈ TB := tb_of (List.mem_of_getElem? (i := 431) rfl) rfl
theorem mb_432 : (.methodLink "PeriodWordsLaw" 40 ⟨"PeriodWordsModel", "make", "(III)I"⟩ : Cond) ∈ TB := tb_of (List.mem_of_getElem? (i := 432) (by decide +kernel)) (by decide +kernel)
theorem mb_433 : (.instanceMethod ⟨"PeriodWordsModel", "make", "(III)I"⟩ : Cond) ∈ TB := tb_of (List.mem_of_getElem? (i := 433) (by decide +kernel)) (by decide +kernel)
theorem mb_434 : (.selects "PeriodWordsModel" ⟨"PeriodWordsModel", "make", "(III)I"⟩ ⟨"PeriodWordsModel", "make", "(III)I"⟩ : Cond) ∈ TB := tb_of (List.mem_of_getElem? (i := 434) (by decide +kernel)) (by decide +kernel)
set_option maxRecDepth 20000 in
theorem mb_435 : (.code ⟨"PeriodWordsModel", "make", "(III)I"⟩ prog_5_method_19_code 5 (some .int) : Cond) ∈ TB := tb_of (List.mem_of_getElem? (i := 435) rfl) rfl
theorem mb_436 : (.methodLink "PeriodWordsModel" 60 ⟨"PeriodWordsModel", "isWord", "(I)Z"⟩ : Cond) ∈ TB := tb_of (List.mem_of_getElem? (i := 436) (by decide +kernel)) (by decide +kernel)
theorem mb_438 : (.instanceMethod ⟨"PeriodWordsModel", "isWord", "(I)Z"⟩ : Cond) ∈ TB := tb_of (List.mem_of_getElem? (i := 438) (by decide +kernel)) (by decide +kernel)
set_option maxRecDepth 20000 in
theorem mb_439 : (.code ⟨"PeriodWordsModel", "isWord", "(I)Z"⟩ prog_5_method_5_code 2 (some .boolean) : Cond) ∈ TB := tb_of (List.mem_of_getElem? (i := 439) rfl) rfl
theorem mb_440 : (.methodLink "PeriodWordsModel" 56 ⟨"PeriodWordsModel", "inRing", "(I)I"⟩ : Cond) ∈ TB := tb_of (List.mem_of_getElem? (i := 440) (by decide +kernel)) (by decide +kernel)
theorem mb_442 : (.instanceMethod ⟨"PeriodWordsModel", "inRing", "(I)I"⟩ : Cond) ∈ TB := tb_of (List.mem_of_getElem? (i := 442) (by decide +kernel)) (by decide +kernel)
set_option maxRecDepth 20000 in
theorem mb_443 : (.code ⟨"PeriodWordsModel", "inRing", "(I)I"⟩ prog_5_method_8_code 2 (some .int) : Cond) ∈ TB := tb_of (List.mem_of_getElem? (i := 443) rfl) rfl
theorem mb_444 : (.methodLink "PeriodWordsModel" 38 ⟨"PeriodWordsModel", "onesOf", "(JI)I"⟩ : Cond) ∈ TB := tb_of (List.mem_of_getElem? (i := 444) (by decide +kernel)) (by decide +kernel)
theorem mb_445 : (.static ⟨"PeriodWordsModel", "onesOf", "(JI)I"⟩ : Cond) ∈ TB := tb_of (List.mem_of_getElem? (i := 445) (by decide +kernel)) (by decide +kernel)
set_option maxRecDepth 20000 in
theorem mb_446 : (.code ⟨"PeriodWordsModel", "onesOf", "(JI)I"⟩ prog_5_method_7_code 5 (some .int) : Cond) ∈ TB := tb_of (List.mem_of_getElem? (i := 446) rfl) rfl
theorem mb_447 : (.methodLink "PeriodWordsModel" 64 ⟨"PeriodWordsModel", "raise", "()I"⟩ : Cond) ∈ TB := tb_of (List.mem_of_getElem? (i := 447) (by decide +kernel)) (by decide +kernel)
theorem mb_449 : (.instanceMethod ⟨"PeriodWordsModel", "raise", "()I"⟩ : Cond) ∈ TB := tb_of (List.mem_of_getElem? (i := 449) (by decide +kernel)) (by decide +kernel)
set_option maxRecDepth 20000 in
theorem mb_450 : (.code ⟨"PeriodWordsModel", "raise", "()I"⟩ prog_5_method_3_code 1 (some .int) : Cond) ∈ TB := tb_of (List.mem_of_getElem? (i := 450) rfl) rfl
theorem mb_451 : (.methodLink "PeriodWordsModel" 68 ⟨"PeriodWordsModel", "opposite", "(I)I"⟩ : Cond) ∈ TB := tb_of (List.mem_of_getElem? (i := 451) (by decide +kernel)) (by decide +kernel)
theorem mb_453 : (.instanceMethod ⟨"PeriodWordsModel", "opposite", "(I)I"⟩ : Cond) ∈ TB := tb_of (List.mem_of_getElem? (i := 453) (by decide +kernel)) (by decide +kernel)
set_option maxRecDepth 20000 in
theorem mb_454 : (.code ⟨"PeriodWordsModel", "opposite", "(I)I"⟩ prog_5_method_14_code 3 (some .int) : Cond) ∈ TB := tb_of (List.mem_of_getElem? (i := 454) rfl) rfl
theorem mb_455 : (.methodLink "PeriodWordsModel" 52 ⟨"PeriodWordsModel", "has", "(II)Z"⟩ : Cond) ∈ TB := tb_of (List.mem_of_getElem? (i := 455) (by decide +kernel)) (by decide +kernel)
theorem mb_457 : (.instanceMethod ⟨"PeriodWordsModel", "has", "(II)Z"⟩ : Cond) ∈ TB := tb_of (List.mem_of_getElem? (i := 457) (by decide +kernel)) (by decide +kernel)
set_option maxRecDepth 20000 in
theorem mb_458 : (.code ⟨"PeriodWordsModel", "has", "(II)Z"⟩ prog_5_method_6_code 3 (some .boolean) : Cond) ∈ TB := tb_of (List.mem_of_getElem? (i := 458) rfl) rfl
theorem mb_459 : (.methodLink "PeriodWordsModel" 71 ⟨"PeriodWordsModel", "on", "(II)I"⟩ : Cond) ∈ TB := tb_of (List.mem_of_getElem? (i := 459) (by decide +kernel)) (by decide +kernel)
theorem mb_461 : (.instanceMethod ⟨"PeriodWordsModel", "on", "(II)I"⟩ : Cond) ∈ TB := tb_of (List.mem_of_getElem? (i := 461) (by decide +kernel)) (by decide +kernel)
set_option maxRecDepth 20000 in
theorem mb_462 : (.code ⟨"PeriodWordsModel", "on", "(II)I"⟩ prog_5_method_15_code 8 (some .int) : Cond) ∈ TB := tb_of (List.mem_of_getElem? (i := 462) rfl) rfl
theorem mb_463 : (.methodLink "PeriodWordsModel" 74 ⟨"PeriodWordsModel", "by", "(II)I"⟩ : Cond) ∈ TB := tb_of (List.mem_of_getElem? (i := 463) (by decide +kernel)) (by decide +kernel)
theorem mb_465 : (.instanceMethod ⟨"PeriodWordsModel", "by", "(II)I"⟩ : Cond) ∈ TB := tb_of (List.mem_of_getElem? (i := 465) (by decide +kernel)) (by decide +kernel)
set_option maxRecDepth 20000 in
theorem mb_466 : (.code ⟨"PeriodWordsModel", "by", "(II)I"⟩ prog_5_method_16_code 8 (some .int) : Cond) ∈ TB := tb_of (List.mem_of_getElem? (i := 466) rfl) rfl
theorem mb_467 : (.methodLink "PeriodWordsModel" 49 ⟨"PeriodWordsModel", "greater", "(II)I"⟩ : Cond) ∈ TB := tb_of (List.mem_of_getElem? (i := 467) (by decide +kernel)) (by decide +kernel)
theorem mb_468 : (.static ⟨"PeriodWordsModel", "greater", "(II)I"⟩ : Cond) ∈ TB := tb_of (List.mem_of_getElem? (i := 468) (by decide +kernel)) (by decide +kernel)
set_option maxRecDepth 20000 in
theorem mb_469 : (.code ⟨"PeriodWordsModel", "greater", "(II)I"⟩ prog_5_method_12_code 2 (some .int) : Cond) ∈ TB := tb_of (List.mem_of_getElem? (i := 469) rfl) rfl
theorem mb_470 : (.methodLink "PeriodWordsModel" 77 ⟨"PeriodWordsModel", "late", "(II)I"⟩ : Cond) ∈ TB := tb_of (List.mem_of_getElem? (i := 470) (by decide +kernel)) (by decide +kernel)
theorem mb_472 : (.instanceMethod ⟨"PeriodWordsModel", "late", "(II)I"⟩ : Cond) ∈ TB := tb_of (List.mem_of_getElem? (i := 472) (by decide +kernel)) (by decide +kernel)
set_option maxRecDepth 20000 in
theorem mb_473 : (.code ⟨"PeriodWordsModel", "late", "(II)I"⟩ prog_5_method_17_code 4 (some .int) : Cond) ∈ TB := tb_of (List.mem_of_getElem? (i := 473) rfl) rfl
theorem mb_474 : (.methodLink "PeriodWordsModel" 80 ⟨"PeriodWordsModel", "halved", "(I)I"⟩ : Cond) ∈ TB := tb_of (List.mem_of_getElem? (i := 474) (by decide +kernel)) (by decide +kernel)
theorem mb_476 : (.instanceMethod ⟨"PeriodWordsModel", "halved", "(I)I"⟩ : Cond) ∈ TB := tb_of (List.mem_of_getElem? (i := 476) (by decide +kernel)) (by decide +kernel)
set_option maxRecDepth 20000 in
theorem mb_477 : (.code ⟨"PeriodWordsModel", "halved", "(I)I"⟩ prog_5_method_18_code 4 (some .int) : Cond) ∈ TB := tb_of (List.mem_of_getElem? (i := 477) rfl) rfl
theorem mb_478 : (.methodLink "PeriodWordsModel" 83 ⟨"PeriodWordsModel", "joined", "(III)I"⟩ : Cond) ∈ TB := tb_of (List.mem_of_getElem? (i := 478) (by decide +kernel)) (by decide +kernel)
theorem mb_480 : (.instanceMethod ⟨"PeriodWordsModel", "joined", "(III)I"⟩ : Cond) ∈ TB := tb_of (List.mem_of_getElem? (i := 480) (by decide +kernel)) (by decide +kernel)
set_option maxRecDepth 20000 in
theorem mb_481 : (.code ⟨"PeriodWordsModel", "joined", "(III)I"⟩ prog_5_method_13_code 7 (some .int) : Cond) ∈ TB := tb_of (List.mem_of_getElem? (i := 481) rfl) rfl
theorem mb_482 : (.methodLink "PeriodWordsLaw" 48 ⟨"PeriodWordsModel", "form", "(II)I"⟩ : Cond) ∈ TB := tb_of (List.mem_of_getElem? (i := 482) (by decide +kernel)) (by decide +kernel)
theorem mb_483 : (.instanceMethod ⟨"PeriodWordsModel", "form", "(II)I"⟩ : Cond) ∈ TB := tb_of (List.mem_of_getElem? (i := 483) (by decide +kernel)) (by decide +kernel)
theorem mb_484 : (.selects "PeriodWordsModel" ⟨"PeriodWordsModel", "form", "(II)I"⟩ ⟨"PeriodWordsModel", "form", "(II)I"⟩ : Cond) ∈ TB := tb_of (List.mem_of_getElem? (i := 484) (by decide +kernel)) (by decide +kernel)
set_option maxRecDepth 20000 in
theorem mb_485 : (.code ⟨"PeriodWordsModel", "form", "(II)I"⟩ prog_5_method_21_code 5 (some .int) : Cond) ∈ TB := tb_of (List.mem_of_getElem? (i := 485) rfl) rfl
theorem mb_486 : (.methodLink "PeriodWordsModel" 87 ⟨"PeriodWordsModel", "divisor", "(II)I"⟩ : Cond) ∈ TB := tb_of (List.mem_of_getElem? (i := 486) (by decide +kernel)) (by decide +kernel)
theorem mb_487 : (.static ⟨"PeriodWordsModel", "divisor", "(II)I"⟩ : Cond) ∈ TB := tb_of (List.mem_of_getElem? (i := 487) (by decide +kernel)) (by decide +kernel)
set_option maxRecDepth 20000 in
theorem mb_488 : (.code ⟨"PeriodWordsModel", "divisor", "(II)I"⟩ prog_5_method_20_code 5 (some .int) : Cond) ∈ TB := tb_of (List.mem_of_getElem? (i := 488) rfl) rfl
theorem mb_489 : (.methodLink "PeriodWordsLaw" 52 ⟨"PeriodWordsModel", "bit", "(II)I"⟩ : Cond) ∈ TB := tb_of (List.mem_of_getElem? (i := 489) (by decide +kernel)) (by decide +kernel)
theorem mb_490 : (.instanceMethod ⟨"PeriodWordsModel", "bit", "(II)I"⟩ : Cond) ∈ TB := tb_of (List.mem_of_getElem? (i := 490) (by decide +kernel)) (by decide +kernel)
theorem mb_491 : (.selects "PeriodWordsModel" ⟨"PeriodWordsModel", "bit", "(II)I"⟩ ⟨"PeriodWordsModel", "bit", "(II)I"⟩ : Cond) ∈ TB := tb_of (List.mem_of_getElem? (i := 491) (by decide +kernel)) (by decide +kernel)
set_option maxRecDepth 20000 in
theorem mb_492 : (.code ⟨"PeriodWordsModel", "bit", "(II)I"⟩ prog_5_method_22_code 3 (some .int) : Cond) ∈ TB := tb_of (List.mem_of_getElem? (i := 492) rfl) rfl
theorem mb_493 : (.constant "PeriodWordsModel" 90 1000000000 : Cond) ∈ TB := tb_of (List.mem_of_getElem? (i := 493) (by decide +kernel)) (by decide +kernel)
theorem mb_494 : (.methodLink "PeriodWordsLaw" 56 ⟨"PeriodWordsModel", "ones", "(II)I"⟩ : Cond) ∈ TB := tb_of (List.mem_of_getElem? (i := 494) (by decide +kernel)) (by decide +kernel)
theorem mb_495 : (.instanceMethod ⟨"PeriodWordsModel", "ones", "(II)I"⟩ : Cond) ∈ TB := tb_of (List.mem_of_getElem? (i := 495) (by decide +kernel)) (by decide +kernel)
theorem mb_496 : (.selects "PeriodWordsModel" ⟨"PeriodWordsModel", "ones", "(II)I"⟩ ⟨"PeriodWordsModel", "ones", "(II)I"⟩ : Cond) ∈ TB := tb_of (List.mem_of_getElem? (i := 496) (by decide +kernel)) (by decide +kernel)
set_option maxRecDepth 20000 in
theorem mb_497 : (.code ⟨"PeriodWordsModel", "ones", "(II)I"⟩ prog_5_method_24_code 3 (some .int) : Cond) ∈ TB := tb_of (List.mem_of_getElem? (i := 497) rfl) rfl
theorem mb_498 : (.methodLink "PeriodWordsModel" 91 ⟨"PeriodWordsModel", "onesAhead", "(II)I"⟩ : Cond) ∈ TB := tb_of (List.mem_of_getElem? (i := 498) (by decide +kernel)) (by decide +kernel)
theorem mb_500 : (.instanceMethod ⟨"PeriodWordsModel", "onesAhead", "(II)I"⟩ : Cond) ∈ TB := tb_of (List.mem_of_getElem? (i := 500) (by decide +kernel)) (by decide +kernel)
set_option maxRecDepth 20000 in
theorem mb_501 : (.code ⟨"PeriodWordsModel", "onesAhead", "(II)I"⟩ prog_5_method_23_code 4 (some .int) : Cond) ∈ TB := tb_of (List.mem_of_getElem? (i := 501) rfl) rfl
theorem mb_502 : (.methodLink "PeriodWordsLaw" 60 ⟨"PeriodWordsModel", "at", "(II)I"⟩ : Cond) ∈ TB := tb_of (List.mem_of_getElem? (i := 502) (by decide +kernel)) (by decide +kernel)
theorem mb_503 : (.instanceMethod ⟨"PeriodWordsModel", "at", "(II)I"⟩ : Cond) ∈ TB := tb_of (List.mem_of_getElem? (i := 503) (by decide +kernel)) (by decide +kernel)
theorem mb_504 : (.selects "PeriodWordsModel" ⟨"PeriodWordsModel", "at", "(II)I"⟩ ⟨"PeriodWordsModel", "at", "(II)I"⟩ : Cond) ∈ TB := tb_of (List.mem_of_getElem? (i := 504) (by decide +kernel)) (by decide +kernel)
set_option maxRecDepth 20000 in
theorem mb_505 : (.code ⟨"PeriodWordsModel", "at", "(II)I"⟩ prog_5_method_26_code 4 (some .int) : Cond) ∈ TB := tb_of (List.mem_of_getElem? (i := 505) rfl) rfl
theorem mb_506 : (.constant "PeriodWordsModel" 94 1000000 : Cond) ∈ TB := tb_of (List.mem_of_getElem? (i := 506) (by decide +kernel)) (by decide +kernel)
theorem mb_507 : (.methodLink "PeriodWordsModel" 95 ⟨"PeriodWordsModel", "place", "(II)I"⟩ : Cond) ∈ TB := tb_of (List.mem_of_getElem? (i := 507) (by decide +kernel)) (by decide +kernel)
theorem mb_509 : (.instanceMethod ⟨"PeriodWordsModel", "place", "(II)I"⟩ : Cond) ∈ TB := tb_of (List.mem_of_getElem? (i := 509) (by decide +kernel)) (by decide +kernel)
set_option maxRecDepth 20000 in
theorem mb_510 : (.code ⟨"PeriodWordsModel", "place", "(II)I"⟩ prog_5_method_25_code 8 (some .int) : Cond) ∈ TB := tb_of (List.mem_of_getElem? (i := 510) rfl) rfl
theorem mb_511 : (.methodLink "PeriodWordsLaw" 65 ⟨"PeriodWordsModel", "same", "(I)I"⟩ : Cond) ∈ TB := tb_of (List.mem_of_getElem? (i := 511) (by decide +kernel)) (by decide +kernel)
theorem mb_512 : (.instanceMethod ⟨"PeriodWordsModel", "same", "(I)I"⟩ : Cond) ∈ TB := tb_of (List.mem_of_getElem? (i := 512) (by decide +kernel)) (by decide +kernel)
theorem mb_513 : (.selects "PeriodWordsModel" ⟨"PeriodWordsModel", "same", "(I)I"⟩ ⟨"PeriodWordsModel", "same", "(I)I"⟩ : Cond) ∈ TB := tb_of (List.mem_of_getElem? (i := 513) (by decide +kernel)) (by decide +kernel)
set_option maxRecDepth 20000 in
theorem mb_514 : (.code ⟨"PeriodWordsModel", "same", "(I)I"⟩ prog_5_method_27_code 3 (some .int) : Cond) ∈ TB := tb_of (List.mem_of_getElem? (i := 514) rfl) rfl
theorem mb_515 : (.methodLink "PeriodWordsLaw" 70 ⟨"PeriodWordsModel", "ahead", "(II)Z"⟩ : Cond) ∈ TB := tb_of (List.mem_of_getElem? (i := 515) (by decide +kernel)) (by decide +kernel)
theorem mb_516 : (.instanceMethod ⟨"PeriodWordsModel", "ahead", "(II)Z"⟩ : Cond) ∈ TB := tb_of (List.mem_of_getElem? (i := 516) (by decide +kernel)) (by decide +kernel)
theorem mb_517 : (.selects "PeriodWordsModel" ⟨"PeriodWordsModel", "ahead", "(II)Z"⟩ ⟨"PeriodWordsModel", "ahead", "(II)Z"⟩ : Cond) ∈ TB := tb_of (List.mem_of_getElem? (i := 517) (by decide +kernel)) (by decide +kernel)
set_option maxRecDepth 20000 in
theorem mb_518 : (.code ⟨"PeriodWordsModel", "ahead", "(II)Z"⟩ prog_5_method_31_code 3 (some .boolean) : Cond) ∈ TB := tb_of (List.mem_of_getElem? (i := 518) rfl) rfl
theorem mb_519 : (.methodLink "PeriodWordsModel" 107 ⟨"PeriodWordsModel", "rates", "(II)I"⟩ : Cond) ∈ TB := tb_of (List.mem_of_getElem? (i := 519) (by decide +kernel)) (by decide +kernel)
theorem mb_521 : (.instanceMethod ⟨"PeriodWordsModel", "rates", "(II)I"⟩ : Cond) ∈ TB := tb_of (List.mem_of_getElem? (i := 521) (by decide +kernel)) (by decide +kernel)
set_option maxRecDepth 20000 in
theorem mb_522 : (.code ⟨"PeriodWordsModel", "rates", "(II)I"⟩ prog_5_method_28_code 3 (some .int) : Cond) ∈ TB := tb_of (List.mem_of_getElem? (i := 522) rfl) rfl
theorem mb_523 : (.methodLink "PeriodWordsModel" 110 ⟨"PeriodWordsModel", "keep", "(II)V"⟩ : Cond) ∈ TB := tb_of (List.mem_of_getElem? (i := 523) (by decide +kernel)) (by decide +kernel)
theorem mb_525 : (.instanceMethod ⟨"PeriodWordsModel", "keep", "(II)V"⟩ : Cond) ∈ TB := tb_of (List.mem_of_getElem? (i := 525) (by decide +kernel)) (by decide +kernel)
set_option maxRecDepth 20000 in
theorem mb_526 : (.code ⟨"PeriodWordsModel", "keep", "(II)V"⟩ prog_5_method_30_code 5 none : Cond) ∈ TB := tb_of (List.mem_of_getElem? (i := 526) rfl) rfl
theorem mb_527 : (.methodLink "PeriodWordsModel" 104 ⟨"PeriodWordsModel", "till", "(II)I"⟩ : Cond) ∈ TB := tb_of (List.mem_of_getElem? (i := 527) (by decide +kernel)) (by decide +kernel)
theorem mb_529 : (.instanceMethod ⟨"PeriodWordsModel", "till", "(II)I"⟩ : Cond) ∈ TB := tb_of (List.mem_of_getElem? (i := 529) (by decide +kernel)) (by decide +kernel)
set_option maxRecDepth 20000 in
theorem mb_530 : (.code ⟨"PeriodWordsModel", "till", "(II)I"⟩ prog_5_method_29_code 3 (some .int) : Cond) ∈ TB := tb_of (List.mem_of_getElem? (i := 530) rfl) rfl
theorem mb_531 : (.methodLink "PeriodWordsLaw" 73 ⟨"PeriodWordsModel", "between", "(III)I"⟩ : Cond) ∈ TB := tb_of (List.mem_of_getElem? (i := 531) (by decide +kernel)) (by decide +kernel)
theorem mb_532 : (.instanceMethod ⟨"PeriodWordsModel", "between", "(III)I"⟩ : Cond) ∈ TB := tb_of (List.mem_of_getElem? (i := 532) (by decide +kernel)) (by decide +kernel)
theorem mb_533 : (.selects "PeriodWordsModel" ⟨"PeriodWordsModel", "between", "(III)I"⟩ ⟨"PeriodWordsModel", "between", "(III)I"⟩ : Cond) ∈ TB := tb_of (List.mem_of_getElem? (i := 533) (by decide +kernel)) (by decide +kernel)
set_option maxRecDepth 20000 in
theorem mb_534 : (.code ⟨"PeriodWordsModel", "between", "(III)I"⟩ prog_5_method_33_code 5 (some .int) : Cond) ∈ TB := tb_of (List.mem_of_getElem? (i := 534) rfl) rfl
theorem mb_535 : (.methodLink "PeriodWordsModel" 114 ⟨"PeriodWordsModel", "waiting", "(II)I"⟩ : Cond) ∈ TB := tb_of (List.mem_of_getElem? (i := 535) (by decide +kernel)) (by decide +kernel)
theorem mb_537 : (.instanceMethod ⟨"PeriodWordsModel", "waiting", "(II)I"⟩ : Cond) ∈ TB := tb_of (List.mem_of_getElem? (i := 537) (by decide +kernel)) (by decide +kernel)
set_option maxRecDepth 20000 in
theorem mb_538 : (.code ⟨"PeriodWordsModel", "waiting", "(II)I"⟩ prog_5_method_32_code 8 (some .int) : Cond) ∈ TB := tb_of (List.mem_of_getElem? (i := 538) rfl) rfl
theorem mb_539 : (.methodLink "PeriodWordsLaw" 77 ⟨"PeriodWordsModel", "clear", "()V"⟩ : Cond) ∈ TB := tb_of (List.mem_of_getElem? (i := 539) (by decide +kernel)) (by decide +kernel)
theorem mb_540 : (.instanceMethod ⟨"PeriodWordsModel", "clear", "()V"⟩ : Cond) ∈ TB := tb_of (List.mem_of_getElem? (i := 540) (by decide +kernel)) (by decide +kernel)
theorem mb_541 : (.selects "PeriodWordsModel" ⟨"PeriodWordsModel", "clear", "()V"⟩ ⟨"PeriodWordsModel", "clear", "()V"⟩ : Cond) ∈ TB := tb_of (List.mem_of_getElem? (i := 541) (by decide +kernel)) (by decide +kernel)
set_option maxRecDepth 20000 in
theorem mb_542 : (.code ⟨"PeriodWordsModel", "clear", "()V"⟩ prog_5_method_34_code 1 none : Cond) ∈ TB := tb_of (List.mem_of_getElem? (i := 542) rfl) rfl
theorem mb_543 : (.methodLink "PeriodWordsLaw" 81 ⟨"PeriodWordsModel", "total", "()I"⟩ : Cond) ∈ TB := tb_of (List.mem_of_getElem? (i := 543) (by decide +kernel)) (by decide +kernel)
theorem mb_544 : (.instanceMethod ⟨"PeriodWordsModel", "total", "()I"⟩ : Cond) ∈ TB := tb_of (List.mem_of_getElem? (i := 544) (by decide +kernel)) (by decide +kernel)
theorem mb_545 : (.selects "PeriodWordsModel" ⟨"PeriodWordsModel", "total", "()I"⟩ ⟨"PeriodWordsModel", "total", "()I"⟩ : Cond) ∈ TB := tb_of (List.mem_of_getElem? (i := 545) (by decide +kernel)) (by decide +kernel)
set_option maxRecDepth 20000 in
theorem mb_546 : (.code ⟨"PeriodWordsModel", "total", "()I"⟩ prog_5_method_35_code 1 (some .int) : Cond) ∈ TB := tb_of (List.mem_of_getElem? (i := 546) rfl) rfl
theorem in_D : ∀ w ∈ u_ws R_D F_D 6, w ∈ TB := by
  show ∀ w ∈ [u_lay R_D F_D 0, u_lay R_D F_D 1, u_lay R_D F_D 2, u_lay R_D F_D 3, u_lay R_D F_D 4, u_lay R_D F_D 5], w ∈ TB
  exact List.forall_mem_cons.mpr ⟨tb_of (List.mem_of_getElem? (i := 128) (by decide +kernel)) (by decide +kernel), List.forall_mem_cons.mpr ⟨tb_of (List.mem_of_getElem? (i := 130) (by decide +kernel)) (by decide +kernel), List.forall_mem_cons.mpr ⟨tb_of (List.mem_of_getElem? (i := 132) (by decide +kernel)) (by decide +kernel), List.forall_mem_cons.mpr ⟨tb_of (List.mem_of_getElem? (i := 134) (by decide +kernel)) (by decide +kernel), List.forall_mem_cons.mpr ⟨tb_of (List.mem_of_getElem? (i := 136) (by decide +kernel)) (by decide +kernel), List.forall_mem_cons.mpr ⟨tb_of (List.mem_of_getElem? (i := 138) (by decide +kernel)) (by decide +kernel), fun _ h => absurd h List.not_mem_nil⟩⟩⟩⟩⟩⟩
theorem in_W : ∀ w ∈ u_ws R_W F_W 7, w ∈ TB := by
  show ∀ w ∈ [u_lay R_W F_W 0, u_lay R_W F_W 1, u_lay R_W F_W 2, u_lay R_W F_W 3, u_lay R_W F_W 4, u_lay R_W F_W 5, u_lay R_W F_W 6], w ∈ TB
  exact List.forall_mem_cons.mpr ⟨tb_of (List.mem_of_getElem? (i := 92) (by decide +kernel)) (by decide +kernel), List.forall_mem_cons.mpr ⟨tb_of (List.mem_of_getElem? (i := 94) (by decide +kernel)) (by decide +kernel), List.forall_mem_cons.mpr ⟨tb_of (List.mem_of_getElem? (i := 96) (by decide +kernel)) (by decide +kernel), List.forall_mem_cons.mpr ⟨tb_of (List.mem_of_getElem? (i := 98) (by decide +kernel)) (by decide +kernel), List.forall_mem_cons.mpr ⟨tb_of (List.mem_of_getElem? (i := 100) (by decide +kernel)) (by decide +kernel), List.forall_mem_cons.mpr ⟨tb_of (List.mem_of_getElem? (i := 102) (by decide +kernel)) (by decide +kernel), List.forall_mem_cons.mpr ⟨tb_of (List.mem_of_getElem? (i := 104) (by decide +kernel)) (by decide +kernel), fun _ h => absurd h List.not_mem_nil⟩⟩⟩⟩⟩⟩⟩
theorem in_P : ∀ w ∈ u_ws R_P F_P 2, w ∈ TB := by
  show ∀ w ∈ [u_lay R_P F_P 0, u_lay R_P F_P 1], w ∈ TB
  exact List.forall_mem_cons.mpr ⟨tb_of (List.mem_of_getElem? (i := 47) (by decide +kernel)) (by decide +kernel), List.forall_mem_cons.mpr ⟨tb_of (List.mem_of_getElem? (i := 49) (by decide +kernel)) (by decide +kernel), fun _ h => absurd h List.not_mem_nil⟩⟩
theorem in_M : ∀ w ∈ u_ws R_M F_M 9, w ∈ TB := by
  show ∀ w ∈ [u_lay R_M F_M 0, u_lay R_M F_M 1, u_lay R_M F_M 2, u_lay R_M F_M 3, u_lay R_M F_M 4, u_lay R_M F_M 5, u_lay R_M F_M 6, u_lay R_M F_M 7, u_lay R_M F_M 8], w ∈ TB
  exact List.forall_mem_cons.mpr ⟨tb_of (List.mem_of_getElem? (i := 392) (by decide +kernel)) (by decide +kernel), List.forall_mem_cons.mpr ⟨tb_of (List.mem_of_getElem? (i := 394) (by decide +kernel)) (by decide +kernel), List.forall_mem_cons.mpr ⟨tb_of (List.mem_of_getElem? (i := 396) (by decide +kernel)) (by decide +kernel), List.forall_mem_cons.mpr ⟨tb_of (List.mem_of_getElem? (i := 398) (by decide +kernel)) (by decide +kernel), List.forall_mem_cons.mpr ⟨tb_of (List.mem_of_getElem? (i := 400) (by decide +kernel)) (by decide +kernel), List.forall_mem_cons.mpr ⟨tb_of (List.mem_of_getElem? (i := 402) (by decide +kernel)) (by decide +kernel), List.forall_mem_cons.mpr ⟨tb_of (List.mem_of_getElem? (i := 404) (by decide +kernel)) (by decide +kernel), List.forall_mem_cons.mpr ⟨tb_of (List.mem_of_getElem? (i := 406) (by decide +kernel)) (by decide +kernel), List.forall_mem_cons.mpr ⟨tb_of (List.mem_of_getElem? (i := 408) (by decide +kernel)) (by decide +kernel), fun _ h => absurd h List.not_mem_nil⟩⟩⟩⟩⟩⟩⟩⟩⟩
