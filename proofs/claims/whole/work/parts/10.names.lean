-- ===== PART A: goes FIRST, ahead of the names: the tables' words, and 'selects' of the private methods out of them =====
/-- a private method of a class that the tables say can be made, by its rows of tables_1 -/
def lw_okq (q : MethodName × Nat) : Prop := (q.1.cls ≠ "java/lang/invoke/MethodHandle" ∧ q.1.cls ≠ "java/lang/invoke/VarHandle") ∧ Cond.instantiable q.1.cls q.2 ∈ tables_1 ∧ Cond.privateMethod q.1 ∈ tables_1 ∧ Cond.instanceMethod q.1 ∈ tables_1
theorem lw_p0 : lw_okq (⟨"PeriodWords", "keep", "(LPeriodWords$Word;)I"⟩, 2) := ⟨⟨by decide +kernel, by decide +kernel⟩, List.mem_of_getElem? (i := 15) (by decide +kernel), List.mem_of_getElem? (i := 170) (by decide +kernel), List.mem_of_getElem? (i := 171) (by decide +kernel)⟩
theorem lw_p1 : lw_okq (⟨"PeriodWords", "find", "(I)LPeriodWords$Word;"⟩, 2) := ⟨⟨by decide +kernel, by decide +kernel⟩, List.mem_of_getElem? (i := 15) (by decide +kernel), List.mem_of_getElem? (i := 178) (by decide +kernel), List.mem_of_getElem? (i := 179) (by decide +kernel)⟩
theorem lw_p2 : lw_okq (⟨"java/lang/Throwable", "fillInStackTrace", "(I)Ljava/lang/Throwable;"⟩, 6) := ⟨⟨by decide +kernel, by decide +kernel⟩, List.mem_of_getElem? (i := 273) (by decide +kernel), List.mem_of_getElem? (i := 271) (by decide +kernel), List.mem_of_getElem? (i := 272) (by decide +kernel)⟩
theorem lw_p3 : lw_okq (⟨"PeriodWordsModel", "settle", "(II)I"⟩, 9) := ⟨⟨by decide +kernel, by decide +kernel⟩, List.mem_of_getElem? (i := 357) (by decide +kernel), List.mem_of_getElem? (i := 404) (by decide +kernel), List.mem_of_getElem? (i := 405) (by decide +kernel)⟩
theorem lw_p4 : lw_okq (⟨"PeriodWordsModel", "comesBack", "(III)Z"⟩, 9) := ⟨⟨by decide +kernel, by decide +kernel⟩, List.mem_of_getElem? (i := 357) (by decide +kernel), List.mem_of_getElem? (i := 408) (by decide +kernel), List.mem_of_getElem? (i := 409) (by decide +kernel)⟩
theorem lw_p5 : lw_okq (⟨"PeriodWordsModel", "isWord", "(I)Z"⟩, 9) := ⟨⟨by decide +kernel, by decide +kernel⟩, List.mem_of_getElem? (i := 357) (by decide +kernel), List.mem_of_getElem? (i := 416) (by decide +kernel), List.mem_of_getElem? (i := 417) (by decide +kernel)⟩
theorem lw_p6 : lw_okq (⟨"PeriodWordsModel", "inRing", "(I)I"⟩, 9) := ⟨⟨by decide +kernel, by decide +kernel⟩, List.mem_of_getElem? (i := 357) (by decide +kernel), List.mem_of_getElem? (i := 420) (by decide +kernel), List.mem_of_getElem? (i := 421) (by decide +kernel)⟩
theorem lw_p7 : lw_okq (⟨"PeriodWordsModel", "raise", "()I"⟩, 9) := ⟨⟨by decide +kernel, by decide +kernel⟩, List.mem_of_getElem? (i := 357) (by decide +kernel), List.mem_of_getElem? (i := 427) (by decide +kernel), List.mem_of_getElem? (i := 428) (by decide +kernel)⟩
theorem lw_p8 : lw_okq (⟨"PeriodWordsModel", "opposite", "(I)I"⟩, 9) := ⟨⟨by decide +kernel, by decide +kernel⟩, List.mem_of_getElem? (i := 357) (by decide +kernel), List.mem_of_getElem? (i := 431) (by decide +kernel), List.mem_of_getElem? (i := 432) (by decide +kernel)⟩
theorem lw_p9 : lw_okq (⟨"PeriodWordsModel", "has", "(II)Z"⟩, 9) := ⟨⟨by decide +kernel, by decide +kernel⟩, List.mem_of_getElem? (i := 357) (by decide +kernel), List.mem_of_getElem? (i := 435) (by decide +kernel), List.mem_of_getElem? (i := 436) (by decide +kernel)⟩
theorem lw_p10 : lw_okq (⟨"PeriodWordsModel", "on", "(II)I"⟩, 9) := ⟨⟨by decide +kernel, by decide +kernel⟩, List.mem_of_getElem? (i := 357) (by decide +kernel), List.mem_of_getElem? (i := 439) (by decide +kernel), List.mem_of_getElem? (i := 440) (by decide +kernel)⟩
theorem lw_p11 : lw_okq (⟨"PeriodWordsModel", "by", "(II)I"⟩, 9) := ⟨⟨by decide +kernel, by decide +kernel⟩, List.mem_of_getElem? (i := 357) (by decide +kernel), List.mem_of_getElem? (i := 443) (by decide +kernel), List.mem_of_getElem? (i := 444) (by decide +kernel)⟩
theorem lw_p12 : lw_okq (⟨"PeriodWordsModel", "late", "(II)I"⟩, 9) := ⟨⟨by decide +kernel, by decide +kernel⟩, List.mem_of_getElem? (i := 357) (by decide +kernel), List.mem_of_getElem? (i := 450) (by decide +kernel), List.mem_of_getElem? (i := 451) (by decide +kernel)⟩
theorem lw_p13 : lw_okq (⟨"PeriodWordsModel", "halved", "(I)I"⟩, 9) := ⟨⟨by decide +kernel, by decide +kernel⟩, List.mem_of_getElem? (i := 357) (by decide +kernel), List.mem_of_getElem? (i := 454) (by decide +kernel), List.mem_of_getElem? (i := 455) (by decide +kernel)⟩
theorem lw_p14 : lw_okq (⟨"PeriodWordsModel", "joined", "(III)I"⟩, 9) := ⟨⟨by decide +kernel, by decide +kernel⟩, List.mem_of_getElem? (i := 357) (by decide +kernel), List.mem_of_getElem? (i := 458) (by decide +kernel), List.mem_of_getElem? (i := 459) (by decide +kernel)⟩
theorem lw_p15 : lw_okq (⟨"PeriodWordsModel", "onesAhead", "(II)I"⟩, 9) := ⟨⟨by decide +kernel, by decide +kernel⟩, List.mem_of_getElem? (i := 357) (by decide +kernel), List.mem_of_getElem? (i := 478) (by decide +kernel), List.mem_of_getElem? (i := 479) (by decide +kernel)⟩
def lw_privs_1 : List (MethodName × Nat) := [(⟨"PeriodWords", "keep", "(LPeriodWords$Word;)I"⟩, 2), (⟨"PeriodWords", "find", "(I)LPeriodWords$Word;"⟩, 2), (⟨"java/lang/Throwable", "fillInStackTrace", "(I)Ljava/lang/Throwable;"⟩, 6), (⟨"PeriodWordsModel", "settle", "(II)I"⟩, 9), (⟨"PeriodWordsModel", "comesBack", "(III)Z"⟩, 9), (⟨"PeriodWordsModel", "isWord", "(I)Z"⟩, 9), (⟨"PeriodWordsModel", "inRing", "(I)I"⟩, 9), (⟨"PeriodWordsModel", "raise", "()I"⟩, 9), (⟨"PeriodWordsModel", "opposite", "(I)I"⟩, 9), (⟨"PeriodWordsModel", "has", "(II)Z"⟩, 9), (⟨"PeriodWordsModel", "on", "(II)I"⟩, 9), (⟨"PeriodWordsModel", "by", "(II)I"⟩, 9), (⟨"PeriodWordsModel", "late", "(II)I"⟩, 9), (⟨"PeriodWordsModel", "halved", "(I)I"⟩, 9), (⟨"PeriodWordsModel", "joined", "(III)I"⟩, 9), (⟨"PeriodWordsModel", "onesAhead", "(II)I"⟩, 9)]
theorem lw_r1 : ∀ q ∈ lw_privs_1, lw_okq q := List.forall_mem_cons.mpr ⟨lw_p0, List.forall_mem_cons.mpr ⟨lw_p1, List.forall_mem_cons.mpr ⟨lw_p2, List.forall_mem_cons.mpr ⟨lw_p3, List.forall_mem_cons.mpr ⟨lw_p4, List.forall_mem_cons.mpr ⟨lw_p5, List.forall_mem_cons.mpr ⟨lw_p6, List.forall_mem_cons.mpr ⟨lw_p7, List.forall_mem_cons.mpr ⟨lw_p8, List.forall_mem_cons.mpr ⟨lw_p9, List.forall_mem_cons.mpr ⟨lw_p10, List.forall_mem_cons.mpr ⟨lw_p11, List.forall_mem_cons.mpr ⟨lw_p12, List.forall_mem_cons.mpr ⟨lw_p13, List.forall_mem_cons.mpr ⟨lw_p14, List.forall_mem_cons.mpr ⟨lw_p15, fun _ h => absurd h List.not_mem_nil⟩⟩⟩⟩⟩⟩⟩⟩⟩⟩⟩⟩⟩⟩⟩⟩
theorem lw_p16 : lw_okq (⟨"PeriodWordsModel", "place", "(II)I"⟩, 9) := ⟨⟨by decide +kernel, by decide +kernel⟩, List.mem_of_getElem? (i := 357) (by decide +kernel), List.mem_of_getElem? (i := 487) (by decide +kernel), List.mem_of_getElem? (i := 488) (by decide +kernel)⟩
theorem lw_p17 : lw_okq (⟨"PeriodWordsModel", "rates", "(II)I"⟩, 9) := ⟨⟨by decide +kernel, by decide +kernel⟩, List.mem_of_getElem? (i := 357) (by decide +kernel), List.mem_of_getElem? (i := 499) (by decide +kernel), List.mem_of_getElem? (i := 500) (by decide +kernel)⟩
theorem lw_p18 : lw_okq (⟨"PeriodWordsModel", "keep", "(II)V"⟩, 9) := ⟨⟨by decide +kernel, by decide +kernel⟩, List.mem_of_getElem? (i := 357) (by decide +kernel), List.mem_of_getElem? (i := 503) (by decide +kernel), List.mem_of_getElem? (i := 504) (by decide +kernel)⟩
theorem lw_p19 : lw_okq (⟨"PeriodWordsModel", "till", "(II)I"⟩, 9) := ⟨⟨by decide +kernel, by decide +kernel⟩, List.mem_of_getElem? (i := 357) (by decide +kernel), List.mem_of_getElem? (i := 507) (by decide +kernel), List.mem_of_getElem? (i := 508) (by decide +kernel)⟩
theorem lw_p20 : lw_okq (⟨"PeriodWordsModel", "waiting", "(II)I"⟩, 9) := ⟨⟨by decide +kernel, by decide +kernel⟩, List.mem_of_getElem? (i := 357) (by decide +kernel), List.mem_of_getElem? (i := 515) (by decide +kernel), List.mem_of_getElem? (i := 516) (by decide +kernel)⟩
def lw_privs_2 : List (MethodName × Nat) := [(⟨"PeriodWordsModel", "place", "(II)I"⟩, 9), (⟨"PeriodWordsModel", "rates", "(II)I"⟩, 9), (⟨"PeriodWordsModel", "keep", "(II)V"⟩, 9), (⟨"PeriodWordsModel", "till", "(II)I"⟩, 9), (⟨"PeriodWordsModel", "waiting", "(II)I"⟩, 9)]
theorem lw_r2 : ∀ q ∈ lw_privs_2, lw_okq q := List.forall_mem_cons.mpr ⟨lw_p16, List.forall_mem_cons.mpr ⟨lw_p17, List.forall_mem_cons.mpr ⟨lw_p18, List.forall_mem_cons.mpr ⟨lw_p19, List.forall_mem_cons.mpr ⟨lw_p20, fun _ h => absurd h List.not_mem_nil⟩⟩⟩⟩⟩
def lw_privs : List (MethodName × Nat) := lw_privs_1 ++ (lw_privs_2)
def lw_tbl : List Cond := k2_sels lw_privs ++ tables_1
theorem lw_privs_ok : ∀ q ∈ lw_privs, lw_okq q := by
  show ∀ q ∈ lw_privs_1 ++ (lw_privs_2), lw_okq q
  exact List.forall_mem_append.mpr ⟨lw_r1, lw_r2⟩
def R_D : String := "PeriodWords$Draft"
def R_W : String := "PeriodWords$Word"
def R_P : String := "PeriodWords"
def R_M : String := "PeriodWordsModel"
def R_L : String := "PeriodWordsLaw"
def R_JL : String := "java/lang/Long"
def R_JI : String := "java/lang/Integer"
def F_D : u_T := fun k => match k with
  | 0 => ("PeriodWords$Draft", "headLength", "I", true)
  | 1 => ("PeriodWords$Draft", "ringLength", "I", true)
  | 2 => ("PeriodWords$Draft", "how", "I", true)
  | 3 => ("PeriodWords$Draft", "a", "LPeriodWords$Word;", true)
  | 4 => ("PeriodWords$Draft", "b", "LPeriodWords$Word;", true)
  | _ => ("PeriodWords$Draft", "late", "I", true)
def t_D : Nat → FieldType := fun k => match k with
  | 0 => .int
  | 1 => .int
  | 2 => .int
  | 3 => .object "PeriodWords$Word"
  | 4 => .object "PeriodWords$Word"
  | _ => .int
theorem n_D : ∀ a, a < 6 → ∀ b, b < 6 → a ≠ b → (F_D a).2.1 ≠ (F_D b).2.1 := by decide +kernel
theorem t_D_ok : ∀ k, k < 6 → parseFieldDescriptor (F_D k).2.2.1 = some (t_D k) := by decide +kernel
def F_W : u_T := fun k => match k with
  | 0 => ("PeriodWords$Word", "headLength", "I", true)
  | 1 => ("PeriodWords$Word", "headBits", "J", true)
  | 2 => ("PeriodWords$Word", "ringLength", "I", true)
  | 3 => ("PeriodWords$Word", "ringBits", "J", true)
  | 4 => ("PeriodWords$Word", "headOnes", "I", true)
  | 5 => ("PeriodWords$Word", "ringOnes", "I", true)
  | _ => ("PeriodWords$Word", "places", "[I", true)
def t_W : Nat → FieldType := fun k => match k with
  | 0 => .int
  | 1 => .long
  | 2 => .int
  | 3 => .long
  | 4 => .int
  | 5 => .int
  | _ => .array (.int)
theorem n_W : ∀ a, a < 7 → ∀ b, b < 7 → a ≠ b → (F_W a).2.1 ≠ (F_W b).2.1 := by decide +kernel
theorem t_W_ok : ∀ k, k < 7 → parseFieldDescriptor (F_W k).2.2.1 = some (t_W k) := by decide +kernel
def F_P : u_T := fun k => match k with
  | 0 => ("PeriodWords", "words", "[LPeriodWords$Word;", true)
  | _ => ("PeriodWords", "count", "I", false)
def t_P : Nat → FieldType := fun k => match k with
  | 0 => .array (.object "PeriodWords$Word")
  | _ => .int
theorem n_P : ∀ a, a < 2 → ∀ b, b < 2 → a ≠ b → (F_P a).2.1 ≠ (F_P b).2.1 := by decide +kernel
theorem t_P_ok : ∀ k, k < 2 → parseFieldDescriptor (F_P k).2.2.1 = some (t_P k) := by decide +kernel
def F_M : u_T := fun k => match k with
  | 0 => ("PeriodWordsModel", "thrown", "I", false)
  | 1 => ("PeriodWordsModel", "words", "I", false)
  | 2 => ("PeriodWordsModel", "head", "[I", true)
  | 3 => ("PeriodWordsModel", "ring", "[I", true)
  | 4 => ("PeriodWordsModel", "headBits", "[J", true)
  | 5 => ("PeriodWordsModel", "ringBits", "[J", true)
  | 6 => ("PeriodWordsModel", "bits", "[Z", true)
  | 7 => ("PeriodWordsModel", "most", "I", false)
  | _ => ("PeriodWordsModel", "least", "I", false)
def t_M : Nat → FieldType := fun k => match k with
  | 0 => .int
  | 1 => .int
  | 2 => .array (.int)
  | 3 => .array (.int)
  | 4 => .array (.long)
  | 5 => .array (.long)
  | 6 => .array (.boolean)
  | 7 => .int
  | _ => .int
theorem n_M : ∀ a, a < 9 → ∀ b, b < 9 → a ≠ b → (F_M a).2.1 ≠ (F_M b).2.1 := by decide +kernel
theorem t_M_ok : ∀ k, k < 9 → parseFieldDescriptor (F_M k).2.2.1 = some (t_M k) := by decide +kernel
abbrev vwCl : List vw_C := [(R_D, F_D, 6), (R_W, F_W, 7), (R_P, F_P, 2), (R_M, F_M, 9)]
abbrev ciD : Nat := 0
abbrev ciW : Nat := 1
abbrev ciP : Nat := 2
abbrev ciM : Nat := 3
abbrev b_P_init : ByteArray := prog_1_method_1_code
def y_P_init : MethodName := ⟨R_P, "<init>", "()V"⟩
abbrev b_P_word : ByteArray := prog_1_method_2_code
def y_P_word : MethodName := ⟨R_P, "word", "(IIII)I"⟩
abbrev b_P_make : ByteArray := prog_1_method_3_code
def y_P_make : MethodName := ⟨R_P, "make", "(III)I"⟩
abbrev b_P_form : ByteArray := prog_1_method_4_code
def y_P_form : MethodName := ⟨R_P, "form", "(II)I"⟩
abbrev b_P_bit : ByteArray := prog_1_method_5_code
def y_P_bit : MethodName := ⟨R_P, "bit", "(II)I"⟩
abbrev b_P_ones : ByteArray := prog_1_method_6_code
def y_P_ones : MethodName := ⟨R_P, "ones", "(II)I"⟩
abbrev b_P_at : ByteArray := prog_1_method_7_code
def y_P_at : MethodName := ⟨R_P, "at", "(II)I"⟩
abbrev b_P_same : ByteArray := prog_1_method_8_code
def y_P_same : MethodName := ⟨R_P, "same", "(I)I"⟩
abbrev b_P_ahead : ByteArray := prog_1_method_9_code
def y_P_ahead : MethodName := ⟨R_P, "ahead", "(II)Z"⟩
abbrev b_P_between : ByteArray := prog_1_method_10_code
def y_P_between : MethodName := ⟨R_P, "between", "(III)I"⟩
abbrev b_P_clear : ByteArray := prog_1_method_11_code
def y_P_clear : MethodName := ⟨R_P, "clear", "()V"⟩
abbrev b_P_total : ByteArray := prog_1_method_12_code
def y_P_total : MethodName := ⟨R_P, "total", "()I"⟩
abbrev b_P_find : ByteArray := prog_1_method_13_code
def y_P_find : MethodName := ⟨R_P, "find", "(I)LPeriodWords$Word;"⟩
abbrev b_P_keep : ByteArray := prog_1_method_14_code
def y_P_keep : MethodName := ⟨R_P, "keep", "(LPeriodWords$Word;)I"⟩
abbrev b_P_needsTwoWords : ByteArray := prog_1_method_15_code
def y_P_needsTwoWords : MethodName := ⟨R_P, "needsTwoWords", "(I)Z"⟩
abbrev b_P_alike : ByteArray := prog_1_method_16_code
def y_P_alike : MethodName := ⟨R_P, "alike", "(LPeriodWords$Word;LPeriodWords$Word;)Z"⟩
abbrev b_P_draftOf : ByteArray := prog_1_method_17_code
def y_P_draftOf : MethodName := ⟨R_P, "draftOf", "(ILPeriodWords$Word;LPeriodWords$Word;I)LPeriodWords$Draft;"⟩
abbrev b_P_draftOn : ByteArray := prog_1_method_18_code
def y_P_draftOn : MethodName := ⟨R_P, "draftOn", "(LPeriodWords$Word;LPeriodWords$Word;)LPeriodWords$Draft;"⟩
abbrev b_P_draftBy : ByteArray := prog_1_method_19_code
def y_P_draftBy : MethodName := ⟨R_P, "draftBy", "(LPeriodWords$Word;LPeriodWords$Word;)LPeriodWords$Draft;"⟩
abbrev b_P_shortestForm : ByteArray := prog_1_method_20_code
def y_P_shortestForm : MethodName := ⟨R_P, "shortestForm", "(LPeriodWords$Draft;)LPeriodWords$Word;"⟩
abbrev b_P_shortestRing : ByteArray := prog_1_method_21_code
def y_P_shortestRing : MethodName := ⟨R_P, "shortestRing", "(LPeriodWords$Draft;)I"⟩
abbrev b_P_shortestHead : ByteArray := prog_1_method_22_code
def y_P_shortestHead : MethodName := ⟨R_P, "shortestHead", "(LPeriodWords$Draft;I)I"⟩
abbrev b_P_compareRates : ByteArray := prog_1_method_23_code
def y_P_compareRates : MethodName := ⟨R_P, "compareRates", "(LPeriodWords$Word;LPeriodWords$Word;)I"⟩
abbrev b_P_mostKept : ByteArray := prog_1_method_24_code
def y_P_mostKept : MethodName := ⟨R_P, "mostKept", "(LPeriodWords$Word;LPeriodWords$Word;)I"⟩
abbrev b_P_leastWait : ByteArray := prog_1_method_25_code
def y_P_leastWait : MethodName := ⟨R_P, "leastWait", "(LPeriodWords$Word;LPeriodWords$Word;)I"⟩
abbrev b_P_mostBehind : ByteArray := prog_1_method_26_code
def y_P_mostBehind : MethodName := ⟨R_P, "mostBehind", "(LPeriodWords$Word;LPeriodWords$Word;I)I"⟩
abbrev b_P_commonMultiple : ByteArray := prog_1_method_27_code
def y_P_commonMultiple : MethodName := ⟨R_P, "commonMultiple", "(II)I"⟩
abbrev b_P_commonDivisor : ByteArray := prog_1_method_28_code
def y_P_commonDivisor : MethodName := ⟨R_P, "commonDivisor", "(II)I"⟩
abbrev b_M_init : ByteArray := prog_5_method_1_code
def y_M_init : MethodName := ⟨R_M, "<init>", "()V"⟩
abbrev b_M_thrown : ByteArray := prog_5_method_2_code
def y_M_thrown : MethodName := ⟨R_M, "thrown", "()I"⟩
abbrev b_M_raise : ByteArray := prog_5_method_3_code
def y_M_raise : MethodName := ⟨R_M, "raise", "()I"⟩
abbrev b_M_in : ByteArray := prog_5_method_4_code
def y_M_in : MethodName := ⟨R_M, "in", "(III)Z"⟩
abbrev b_M_isWord : ByteArray := prog_5_method_5_code
def y_M_isWord : MethodName := ⟨R_M, "isWord", "(I)Z"⟩
abbrev b_M_has : ByteArray := prog_5_method_6_code
def y_M_has : MethodName := ⟨R_M, "has", "(II)Z"⟩
abbrev b_M_onesOf : ByteArray := prog_5_method_7_code
def y_M_onesOf : MethodName := ⟨R_M, "onesOf", "(JI)I"⟩
abbrev b_M_inRing : ByteArray := prog_5_method_8_code
def y_M_inRing : MethodName := ⟨R_M, "inRing", "(I)I"⟩
abbrev b_M_settle : ByteArray := prog_5_method_9_code
def y_M_settle : MethodName := ⟨R_M, "settle", "(II)I"⟩
abbrev b_M_comesBack : ByteArray := prog_5_method_10_code
def y_M_comesBack : MethodName := ⟨R_M, "comesBack", "(III)Z"⟩
abbrev b_M_word : ByteArray := prog_5_method_11_code
def y_M_word : MethodName := ⟨R_M, "word", "(IIII)I"⟩
abbrev b_M_greater : ByteArray := prog_5_method_12_code
def y_M_greater : MethodName := ⟨R_M, "greater", "(II)I"⟩
abbrev b_M_joined : ByteArray := prog_5_method_13_code
def y_M_joined : MethodName := ⟨R_M, "joined", "(III)I"⟩
abbrev b_M_opposite : ByteArray := prog_5_method_14_code
def y_M_opposite : MethodName := ⟨R_M, "opposite", "(I)I"⟩
abbrev b_M_on : ByteArray := prog_5_method_15_code
def y_M_on : MethodName := ⟨R_M, "on", "(II)I"⟩
abbrev b_M_by : ByteArray := prog_5_method_16_code
def y_M_by : MethodName := ⟨R_M, "by", "(II)I"⟩
abbrev b_M_late : ByteArray := prog_5_method_17_code
def y_M_late : MethodName := ⟨R_M, "late", "(II)I"⟩
abbrev b_M_halved : ByteArray := prog_5_method_18_code
def y_M_halved : MethodName := ⟨R_M, "halved", "(I)I"⟩
abbrev b_M_make : ByteArray := prog_5_method_19_code
def y_M_make : MethodName := ⟨R_M, "make", "(III)I"⟩
abbrev b_M_divisor : ByteArray := prog_5_method_20_code
def y_M_divisor : MethodName := ⟨R_M, "divisor", "(II)I"⟩
abbrev b_M_form : ByteArray := prog_5_method_21_code
def y_M_form : MethodName := ⟨R_M, "form", "(II)I"⟩
abbrev b_M_bit : ByteArray := prog_5_method_22_code
def y_M_bit : MethodName := ⟨R_M, "bit", "(II)I"⟩
abbrev b_M_onesAhead : ByteArray := prog_5_method_23_code
def y_M_onesAhead : MethodName := ⟨R_M, "onesAhead", "(II)I"⟩
abbrev b_M_ones : ByteArray := prog_5_method_24_code
def y_M_ones : MethodName := ⟨R_M, "ones", "(II)I"⟩
abbrev b_M_place : ByteArray := prog_5_method_25_code
def y_M_place : MethodName := ⟨R_M, "place", "(II)I"⟩
abbrev b_M_at : ByteArray := prog_5_method_26_code
def y_M_at : MethodName := ⟨R_M, "at", "(II)I"⟩
abbrev b_M_same : ByteArray := prog_5_method_27_code
def y_M_same : MethodName := ⟨R_M, "same", "(I)I"⟩
abbrev b_M_rates : ByteArray := prog_5_method_28_code
def y_M_rates : MethodName := ⟨R_M, "rates", "(II)I"⟩
abbrev b_M_till : ByteArray := prog_5_method_29_code
def y_M_till : MethodName := ⟨R_M, "till", "(II)I"⟩
abbrev b_M_keep : ByteArray := prog_5_method_30_code
def y_M_keep : MethodName := ⟨R_M, "keep", "(II)V"⟩
abbrev b_M_ahead : ByteArray := prog_5_method_31_code
def y_M_ahead : MethodName := ⟨R_M, "ahead", "(II)Z"⟩
abbrev b_M_waiting : ByteArray := prog_5_method_32_code
def y_M_waiting : MethodName := ⟨R_M, "waiting", "(II)I"⟩
abbrev b_M_between : ByteArray := prog_5_method_33_code
def y_M_between : MethodName := ⟨R_M, "between", "(III)I"⟩
abbrev b_M_clear : ByteArray := prog_5_method_34_code
def y_M_clear : MethodName := ⟨R_M, "clear", "()V"⟩
abbrev b_M_total : ByteArray := prog_5_method_35_code
def y_M_total : MethodName := ⟨R_M, "total", "()I"⟩
abbrev b_D_init : ByteArray := prog_2_method_1_code
def y_D_init : MethodName := ⟨R_D, "<init>", "(ILPeriodWords$Word;LPeriodWords$Word;III)V"⟩
abbrev b_D_bitAt : ByteArray := prog_2_method_2_code
def y_D_bitAt : MethodName := ⟨R_D, "bitAt", "(I)I"⟩
abbrev b_D_bits : ByteArray := prog_2_method_3_code
def y_D_bits : MethodName := ⟨R_D, "bits", "(II)J"⟩
abbrev b_W_init : ByteArray := prog_3_method_1_code
def y_W_init : MethodName := ⟨R_W, "<init>", "(IJIJ)V"⟩
abbrev b_W_lowest : ByteArray := prog_3_method_2_code
def y_W_lowest : MethodName := ⟨R_W, "lowest", "(I)J"⟩
abbrev b_W_placesOf : ByteArray := prog_3_method_3_code
def y_W_placesOf : MethodName := ⟨R_W, "placesOf", "(JJ)[I"⟩
abbrev b_W_writePlaces : ByteArray := prog_3_method_4_code
def y_W_writePlaces : MethodName := ⟨R_W, "writePlaces", "([IIJ)V"⟩
abbrev b_W_bitAt : ByteArray := prog_3_method_5_code
def y_W_bitAt : MethodName := ⟨R_W, "bitAt", "(I)I"⟩
abbrev b_W_onesBefore : ByteArray := prog_3_method_6_code
def y_W_onesBefore : MethodName := ⟨R_W, "onesBefore", "(I)I"⟩
abbrev b_W_hasOne : ByteArray := prog_3_method_7_code
def y_W_hasOne : MethodName := ⟨R_W, "hasOne", "(I)Z"⟩
abbrev b_W_tickOf : ByteArray := prog_3_method_8_code
def y_W_tickOf : MethodName := ⟨R_W, "tickOf", "(I)I"⟩
abbrev b_L_make : ByteArray := method_3_code
def y_L_make : MethodName := ⟨R_L, "make", "(LPeriodWords;III[J)I"⟩
abbrev b_L_at : ByteArray := method_4_code
def y_L_at : MethodName := ⟨R_L, "at", "(LPeriodWords;II[J)I"⟩
abbrev b_L_between : ByteArray := method_5_code
def y_L_between : MethodName := ⟨R_L, "between", "(LPeriodWords;III[J)I"⟩
abbrev b_L_law : ByteArray := code
def y_L_law : MethodName := ⟨R_L, "law", "([I)Z"⟩
abbrev b_JI_compare : ByteArray := prog_9_method_40_code
def y_JI_compare : MethodName := ⟨R_JI, "compare", "(II)I"⟩
abbrev b_JL_bitCount : ByteArray := prog_10_method_50_code
def y_JL_bitCount : MethodName := ⟨R_JL, "bitCount", "(J)I"⟩
/-! the tables' words that stay good under every call -/
def TB : List Cond := lw_tbl.filter goodWord
theorem tb_of {w : Cond} (h : w ∈ lw_tbl) (g : goodWord w = true) : w ∈ TB := List.mem_filter.mpr ⟨h, g⟩
theorem tb_in {w : Cond} (h : w ∈ TB) : w ∈ lw_tbl := (List.mem_filter.mp h).1
theorem gd_w {w : Cond} (h : w ∈ TB) : (w.onTables && w.keeps) = true ∨ ∃ ty, w = .arrayClass ty := good_of_word (List.mem_filter.mp h).2
theorem gd_S {c0 : Cond} {own : String} {idx : Nat} {y : MethodName} {bytes : ByteArray} {maxL : Nat} {ret : Option FieldType} (h1 : Cond.methodLink own idx y ∈ TB) (h2 : Cond.static y ∈ TB) (h3 : Cond.initialized y.cls ∈ TB) (h4 : Cond.code y bytes maxL ret ∈ TB) : GoodIn (c0 :: TB) (va_wsS own idx y (Cond.code y bytes maxL ret :: TB)) := by
  intro w hw
  have hm : w ∈ TB := by
    unfold va_wsS at hw
    rcases List.mem_append.mp hw with q | q
    · simp only [List.mem_cons, List.not_mem_nil, or_false] at q
      rcases q with rfl | rfl | rfl <;> assumption
    · rcases List.mem_cons.mp q with rfl | q
      · exact h4
      · exact q
  exact ⟨List.mem_cons_of_mem _ hm, gd_w hm⟩
theorem gd_V {c0 : Cond} {own C : String} {idx : Nat} {y : MethodName} {bytes : ByteArray} {maxL : Nat} {ret : Option FieldType} (h1 : Cond.methodLink own idx y ∈ TB) (h2 : Cond.instanceMethod y ∈ TB) (h3 : Cond.selects C y y ∈ TB) (h5 : Cond.initialized C ∈ TB) (h4 : Cond.code y bytes maxL ret ∈ TB) : GoodIn (c0 :: TB) (wsV own idx C y (Cond.code y bytes maxL ret :: TB)) := by
  intro w hw
  have hm : w ∈ TB := by
    unfold wsV at hw
    rcases List.mem_append.mp hw with q | q
    · simp only [List.mem_cons, List.not_mem_nil, or_false] at q
      rcases q with rfl | rfl | rfl | rfl <;> assumption
    · rcases List.mem_cons.mp q with rfl | q
      · exact h4
      · exact q
  exact ⟨List.mem_cons_of_mem _ hm, gd_w hm⟩
theorem gd_I {c0 : Cond} {y : MethodName} {bytes : ByteArray} {maxL : Nat} {ret : Option FieldType} (h4 : Cond.code y bytes maxL ret ∈ TB) : GoodIn (c0 :: TB) (Cond.code y bytes maxL ret :: TB) := by
  intro w hw
  have hm : w ∈ TB := by
    rcases List.mem_cons.mp hw with rfl | q
    · exact h4
    · exact q
  exact ⟨List.mem_cons_of_mem _ hm, gd_w hm⟩
def ws_P_init : List Cond := .code y_P_init b_P_init 1 none :: TB
def ws_P_word : List Cond := .code y_P_word b_P_word 6 (some .int) :: TB
def ws_P_make : List Cond := .code y_P_make b_P_make 6 (some .int) :: TB
def ws_P_form : List Cond := .code y_P_form b_P_form 4 (some .int) :: TB
def ws_P_bit : List Cond := .code y_P_bit b_P_bit 4 (some .int) :: TB
def ws_P_ones : List Cond := .code y_P_ones b_P_ones 4 (some .int) :: TB
def ws_P_at : List Cond := .code y_P_at b_P_at 4 (some .int) :: TB
def ws_P_same : List Cond := .code y_P_same b_P_same 4 (some .int) :: TB
def ws_P_ahead : List Cond := .code y_P_ahead b_P_ahead 5 (some .boolean) :: TB
def ws_P_between : List Cond := .code y_P_between b_P_between 7 (some .int) :: TB
def ws_P_clear : List Cond := .code y_P_clear b_P_clear 2 none :: TB
def ws_P_total : List Cond := .code y_P_total b_P_total 1 (some .int) :: TB
def ws_P_find : List Cond := .code y_P_find b_P_find 2 (some (.object "PeriodWords$Word")) :: TB
def ws_P_keep : List Cond := .code y_P_keep b_P_keep 2 (some .int) :: TB
def ws_P_needsTwoWords : List Cond := .code y_P_needsTwoWords b_P_needsTwoWords 1 (some .boolean) :: TB
def ws_P_alike : List Cond := .code y_P_alike b_P_alike 2 (some .boolean) :: TB
def ws_P_draftOf : List Cond := .code y_P_draftOf b_P_draftOf 4 (some (.object "PeriodWords$Draft")) :: TB
def ws_P_draftOn : List Cond := .code y_P_draftOn b_P_draftOn 4 (some (.object "PeriodWords$Draft")) :: TB
def ws_P_draftBy : List Cond := .code y_P_draftBy b_P_draftBy 4 (some (.object "PeriodWords$Draft")) :: TB
def ws_P_shortestForm : List Cond := .code y_P_shortestForm b_P_shortestForm 3 (some (.object "PeriodWords$Word")) :: TB
def ws_P_shortestRing : List Cond := .code y_P_shortestRing b_P_shortestRing 8 (some .int) :: TB
def ws_P_shortestHead : List Cond := .code y_P_shortestHead b_P_shortestHead 3 (some .int) :: TB
def ws_P_compareRates : List Cond := .code y_P_compareRates b_P_compareRates 2 (some .int) :: TB
def ws_P_mostKept : List Cond := .code y_P_mostKept b_P_mostKept 6 (some .int) :: TB
def ws_P_leastWait : List Cond := .code y_P_leastWait b_P_leastWait 3 (some .int) :: TB
def ws_P_mostBehind : List Cond := .code y_P_mostBehind b_P_mostBehind 5 (some .int) :: TB
def ws_P_commonMultiple : List Cond := .code y_P_commonMultiple b_P_commonMultiple 2 (some .int) :: TB
def ws_P_commonDivisor : List Cond := .code y_P_commonDivisor b_P_commonDivisor 6 (some .int) :: TB
def ws_M_init : List Cond := .code y_M_init b_M_init 1 none :: TB
def ws_M_thrown : List Cond := .code y_M_thrown b_M_thrown 1 (some .int) :: TB
def ws_M_raise : List Cond := .code y_M_raise b_M_raise 1 (some .int) :: TB
def ws_M_in : List Cond := .code y_M_in b_M_in 3 (some .boolean) :: TB
def ws_M_isWord : List Cond := .code y_M_isWord b_M_isWord 2 (some .boolean) :: TB
def ws_M_has : List Cond := .code y_M_has b_M_has 3 (some .boolean) :: TB
def ws_M_onesOf : List Cond := .code y_M_onesOf b_M_onesOf 5 (some .int) :: TB
def ws_M_inRing : List Cond := .code y_M_inRing b_M_inRing 2 (some .int) :: TB
def ws_M_settle : List Cond := .code y_M_settle b_M_settle 6 (some .int) :: TB
def ws_M_comesBack : List Cond := .code y_M_comesBack b_M_comesBack 5 (some .boolean) :: TB
def ws_M_word : List Cond := .code y_M_word b_M_word 6 (some .int) :: TB
def ws_M_greater : List Cond := .code y_M_greater b_M_greater 2 (some .int) :: TB
def ws_M_joined : List Cond := .code y_M_joined b_M_joined 7 (some .int) :: TB
def ws_M_opposite : List Cond := .code y_M_opposite b_M_opposite 3 (some .int) :: TB
def ws_M_on : List Cond := .code y_M_on b_M_on 8 (some .int) :: TB
def ws_M_by : List Cond := .code y_M_by b_M_by 8 (some .int) :: TB
def ws_M_late : List Cond := .code y_M_late b_M_late 4 (some .int) :: TB
def ws_M_halved : List Cond := .code y_M_halved b_M_halved 4 (some .int) :: TB
def ws_M_make : List Cond := .code y_M_make b_M_make 5 (some .int) :: TB
def ws_M_divisor : List Cond := .code y_M_divisor b_M_divisor 5 (some .int) :: TB
def ws_M_form : List Cond := .code y_M_form b_M_form 5 (some .int) :: TB
def ws_M_bit : List Cond := .code y_M_bit b_M_bit 3 (some .int) :: TB
def ws_M_onesAhead : List Cond := .code y_M_onesAhead b_M_onesAhead 4 (some .int) :: TB
def ws_M_ones : List Cond := .code y_M_ones b_M_ones 3 (some .int) :: TB
def ws_M_place : List Cond := .code y_M_place b_M_place 8 (some .int) :: TB
def ws_M_at : List Cond := .code y_M_at b_M_at 4 (some .int) :: TB
def ws_M_same : List Cond := .code y_M_same b_M_same 3 (some .int) :: TB
def ws_M_rates : List Cond := .code y_M_rates b_M_rates 3 (some .int) :: TB
def ws_M_till : List Cond := .code y_M_till b_M_till 3 (some .int) :: TB
def ws_M_keep : List Cond := .code y_M_keep b_M_keep 5 none :: TB
def ws_M_ahead : List Cond := .code y_M_ahead b_M_ahead 3 (some .boolean) :: TB
def ws_M_waiting : List Cond := .code y_M_waiting b_M_waiting 8 (some .int) :: TB
def ws_M_between : List Cond := .code y_M_between b_M_between 5 (some .int) :: TB
def ws_M_clear : List Cond := .code y_M_clear b_M_clear 1 none :: TB
def ws_M_total : List Cond := .code y_M_total b_M_total 1 (some .int) :: TB
def ws_D_init : List Cond := .code y_D_init b_D_init 7 none :: TB
def ws_D_bitAt : List Cond := .code y_D_bitAt b_D_bitAt 2 (some .int) :: TB
def ws_D_bits : List Cond := .code y_D_bits b_D_bits 6 (some .long) :: TB
def ws_W_init : List Cond := .code y_W_init b_W_init 7 none :: TB
def ws_W_lowest : List Cond := .code y_W_lowest b_W_lowest 1 (some .long) :: TB
def ws_W_placesOf : List Cond := .code y_W_placesOf b_W_placesOf 6 (some (.array .int)) :: TB
def ws_W_writePlaces : List Cond := .code y_W_writePlaces b_W_writePlaces 6 none :: TB
def ws_W_bitAt : List Cond := .code y_W_bitAt b_W_bitAt 2 (some .int) :: TB
def ws_W_onesBefore : List Cond := .code y_W_onesBefore b_W_onesBefore 4 (some .int) :: TB
def ws_W_hasOne : List Cond := .code y_W_hasOne b_W_hasOne 2 (some .boolean) :: TB
def ws_W_tickOf : List Cond := .code y_W_tickOf b_W_tickOf 3 (some .int) :: TB
def ws_JI_compare : List Cond := .code y_JI_compare b_JI_compare 2 (some .int) :: TB
def ws_JL_bitCount : List Cond := .code y_JL_bitCount b_JL_bitCount 2 (some .int) :: TB
