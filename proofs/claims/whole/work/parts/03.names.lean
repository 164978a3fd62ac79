abbrev RAs : String := "DigitChip$Assembler"
def TAs : u_T := fun k => match k with
  | 0 => ("DigitChip$Assembler", "text", "[C", true)
  | 1 => ("DigitChip$Assembler", "length", "I", false)
  | 2 => ("DigitChip$Assembler", "labels", "[I", true)
  | 3 => ("DigitChip$Assembler", "begins", "[I", true)
  | 4 => ("DigitChip$Assembler", "choice", "I", false)
  | 5 => ("DigitChip$Assembler", "words", "[I", true)
  | 6 => ("DigitChip$Assembler", "count", "I", false)
  | _ => ("DigitChip$Assembler", "ill", "I", false)
def tyAs : Nat → FieldType := fun k => match k with
  | 0 => .array .char
  | 1 => .int
  | 2 => .array .int
  | 3 => .array .int
  | 4 => .int
  | 5 => .array .int
  | 6 => .int
  | _ => .int
theorem nmAs : ∀ a, a < 8 → ∀ b, b < 8 → a ≠ b → (TAs a).2.1 ≠ (TAs b).2.1 := by decide +kernel
theorem tyAs_ok : ∀ k, k < 8 → parseFieldDescriptor (TAs k).2.2.1 = some (tyAs k) := by decide +kernel
abbrev RPr : String := "DigitChip$Processor"
def TPr : u_T := fun k => match k with
  | 0 => ("DigitChip$Processor", "memory", "[I", true)
  | 1 => ("DigitChip$Processor", "registers", "LDigitChip$Registers;", true)
  | 2 => ("DigitChip$Processor", "waiting", "LDigitChip$Waiting;", true)
  | 3 => ("DigitChip$Processor", "pointer", "I", false)
  | 4 => ("DigitChip$Processor", "status", "I", false)
  | 5 => ("DigitChip$Processor", "carry", "Z", false)
  | 6 => ("DigitChip$Processor", "place", "I", false)
  | 7 => ("DigitChip$Processor", "back", "I", false)
  | _ => ("DigitChip$Processor", "ended", "Z", false)
def tyPr : Nat → FieldType := fun k => match k with
  | 0 => .array .int
  | 1 => .object "DigitChip$Registers"
  | 2 => .object "DigitChip$Waiting"
  | 3 => .int
  | 4 => .int
  | 5 => .boolean
  | 6 => .int
  | 7 => .int
  | _ => .boolean
theorem nmPr : ∀ a, a < 9 → ∀ b, b < 9 → a ≠ b → (TPr a).2.1 ≠ (TPr b).2.1 := by decide +kernel
theorem tyPr_ok : ∀ k, k < 9 → parseFieldDescriptor (TPr k).2.2.1 = some (tyPr k) := by decide +kernel
abbrev RRe : String := "DigitChip$Registers"
def TRe : u_T := fun k => match k with
  | 0 => ("DigitChip$Registers", "numbers", "[J", true)
  | 1 => ("DigitChip$Registers", "unit", "J", false)
  | _ => ("DigitChip$Registers", "limit", "J", false)
def tyRe : Nat → FieldType := fun k => match k with
  | 0 => .array .long
  | 1 => .long
  | _ => .long
theorem nmRe : ∀ a, a < 3 → ∀ b, b < 3 → a ≠ b → (TRe a).2.1 ≠ (TRe b).2.1 := by decide +kernel
theorem tyRe_ok : ∀ k, k < 3 → parseFieldDescriptor (TRe k).2.2.1 = some (tyRe k) := by decide +kernel
abbrev RWa : String := "DigitChip$Waiting"
def TWa : u_T := fun k => match k with
  | 0 => ("DigitChip$Waiting", "row", "[I", true)
  | _ => ("DigitChip$Waiting", "count", "I", false)
def tyWa : Nat → FieldType := fun k => match k with
  | 0 => .array .int
  | _ => .int
theorem nmWa : ∀ a, a < 2 → ∀ b, b < 2 → a ≠ b → (TWa a).2.1 ≠ (TWa b).2.1 := by decide +kernel
theorem tyWa_ok : ∀ k, k < 2 → parseFieldDescriptor (TWa k).2.2.1 = some (tyWa k) := by decide +kernel
abbrev RCh : String := "DigitChip"
def TCh : u_T := fun k => match k with
  | 0 => ("DigitChip", "assembler", "LDigitChip$Assembler;", true)
  | _ => ("DigitChip", "processor", "LDigitChip$Processor;", true)
def tyCh : Nat → FieldType := fun k => match k with
  | 0 => .object "DigitChip$Assembler"
  | _ => .object "DigitChip$Processor"
theorem nmCh : ∀ a, a < 2 → ∀ b, b < 2 → a ≠ b → (TCh a).2.1 ≠ (TCh b).2.1 := by decide +kernel
theorem tyCh_ok : ∀ k, k < 2 → parseFieldDescriptor (TCh k).2.2.1 = some (tyCh k) := by decide +kernel
abbrev RMo : String := "DigitChipModel"
def TMo : u_T := fun k => match k with
  | 0 => ("DigitChipModel", "code", "I", false)
  | 1 => ("DigitChipModel", "powers", "[J", true)
  | 2 => ("DigitChipModel", "registers", "[J", true)
  | 3 => ("DigitChipModel", "pointer", "I", false)
  | 4 => ("DigitChipModel", "status", "I", false)
  | 5 => ("DigitChipModel", "carry", "Z", false)
  | 6 => ("DigitChipModel", "place", "I", false)
  | 7 => ("DigitChipModel", "back", "I", false)
  | 8 => ("DigitChipModel", "words", "[I", true)
  | 9 => ("DigitChipModel", "keys", "I", false)
  | 10 => ("DigitChipModel", "pressed", "[I", true)
  | 11 => ("DigitChipModel", "ended", "Z", false)
  | 12 => ("DigitChipModel", "low", "J", false)
  | 13 => ("DigitChipModel", "wide", "J", false)
  | 14 => ("DigitChipModel", "size", "I", false)
  | 15 => ("DigitChipModel", "text", "[C", true)
  | 16 => ("DigitChipModel", "illAt", "I", false)
  | 17 => ("DigitChipModel", "count", "I", false)
  | 18 => ("DigitChipModel", "made", "[I", true)
  | 19 => ("DigitChipModel", "labels", "[I", true)
  | _ => ("DigitChipModel", "wanted", "[I", true)
def tyMo : Nat → FieldType := fun k => match k with
  | 0 => .int
  | 1 => .array .long
  | 2 => .array .long
  | 3 => .int
  | 4 => .int
  | 5 => .boolean
  | 6 => .int
  | 7 => .int
  | 8 => .array .int
  | 9 => .int
  | 10 => .array .int
  | 11 => .boolean
  | 12 => .long
  | 13 => .long
  | 14 => .int
  | 15 => .array .char
  | 16 => .int
  | 17 => .int
  | 18 => .array .int
  | 19 => .array .int
  | _ => .array .int
theorem nmMo : ∀ a, a < 21 → ∀ b, b < 21 → a ≠ b → (TMo a).2.1 ≠ (TMo b).2.1 := by decide +kernel
theorem tyMo_ok : ∀ k, k < 21 → parseFieldDescriptor (TMo k).2.2.1 = some (tyMo k) := by decide +kernel
abbrev RLa : String := "DigitChipLaw"
abbrev vCl : List vw_C := [(RAs, TAs, 8), (RPr, TPr, 9), (RRe, TRe, 3), (RWa, TWa, 2), (RCh, TCh, 2), (RMo, TMo, 21)]
abbrev c_Ch_init : ByteArray := prog_1_method_1_code
abbrev y_Ch_init : MethodName := ⟨"DigitChip", "<init>", "()V"⟩
abbrev c_As_init : ByteArray := prog_2_method_1_code
abbrev y_As_init : MethodName := ⟨"DigitChip$Assembler", "<init>", "()V"⟩
abbrev c_St_length : ByteArray := prog_13_method_54_code
abbrev y_St_length : MethodName := ⟨"java/lang/String", "length", "()I"⟩
abbrev c_St_coder : ByteArray := prog_13_method_152_code
abbrev y_St_coder : MethodName := ⟨"java/lang/String", "coder", "()B"⟩
abbrev c_Pr_init : ByteArray := prog_3_method_1_code
abbrev y_Pr_init : MethodName := ⟨"DigitChip$Processor", "<init>", "()V"⟩
abbrev c_Re_init : ByteArray := prog_4_method_1_code
abbrev y_Re_init : MethodName := ⟨"DigitChip$Registers", "<init>", "()V"⟩
abbrev c_Wa_init : ByteArray := prog_5_method_1_code
abbrev y_Wa_init : MethodName := ⟨"DigitChip$Waiting", "<init>", "()V"⟩
abbrev c_Ch_type : ByteArray := prog_1_method_2_code
abbrev y_Ch_type : MethodName := ⟨"DigitChip", "type", "(C)Z"⟩
abbrev c_As_append : ByteArray := prog_2_method_2_code
abbrev y_As_append : MethodName := ⟨"DigitChip$Assembler", "append", "(C)Z"⟩
abbrev c_Ch_illAt : ByteArray := prog_1_method_4_code
abbrev y_Ch_illAt : MethodName := ⟨"DigitChip", "illAt", "()I"⟩
abbrev c_Ch_word : ByteArray := prog_1_method_5_code
abbrev y_Ch_word : MethodName := ⟨"DigitChip", "word", "(I)I"⟩
abbrev c_Ch_isPlace : ByteArray := prog_1_method_15_code
abbrev y_Ch_isPlace : MethodName := ⟨"DigitChip", "isPlace", "(I)Z"⟩
abbrev c_Ch_poke : ByteArray := prog_1_method_6_code
abbrev y_Ch_poke : MethodName := ⟨"DigitChip", "poke", "(II)Z"⟩
abbrev c_Ch_key : ByteArray := prog_1_method_7_code
abbrev y_Ch_key : MethodName := ⟨"DigitChip", "key", "(I)Z"⟩
abbrev c_Wa_append : ByteArray := prog_5_method_2_code
abbrev y_Wa_append : MethodName := ⟨"DigitChip$Waiting", "append", "(I)Z"⟩
abbrev c_Ch_keys : ByteArray := prog_1_method_8_code
abbrev y_Ch_keys : MethodName := ⟨"DigitChip", "keys", "()I"⟩
abbrev c_Ch_value : ByteArray := prog_1_method_10_code
abbrev y_Ch_value : MethodName := ⟨"DigitChip", "value", "(I)J"⟩
abbrev c_Ch_isRegister : ByteArray := prog_1_method_16_code
abbrev y_Ch_isRegister : MethodName := ⟨"DigitChip", "isRegister", "(I)Z"⟩
abbrev c_Ch_set : ByteArray := prog_1_method_11_code
abbrev y_Ch_set : MethodName := ⟨"DigitChip", "set", "(IJ)Z"⟩
abbrev c_Ch_state : ByteArray := prog_1_method_12_code
abbrev y_Ch_state : MethodName := ⟨"DigitChip", "state", "(I)I"⟩
abbrev c_Ch_go : ByteArray := prog_1_method_13_code
abbrev y_Ch_go : MethodName := ⟨"DigitChip", "go", "(I)Z"⟩
abbrev c_Ch_display : ByteArray := prog_1_method_14_code
abbrev y_Ch_display : MethodName := ⟨"DigitChip", "display", "(I)I"⟩
abbrev c_Ch_digitBeforePoint : ByteArray := prog_1_method_18_code
abbrev y_Ch_digitBeforePoint : MethodName := ⟨"DigitChip", "digitBeforePoint", "()I"⟩
abbrev c_Re_digit : ByteArray := prog_4_method_2_code
abbrev y_Re_digit : MethodName := ⟨"DigitChip$Registers", "digit", "(II)I"⟩
abbrev c_Ch_codeOfDigit : ByteArray := prog_1_method_17_code
abbrev y_Ch_codeOfDigit : MethodName := ⟨"DigitChip", "codeOfDigit", "(I)I"⟩
abbrev c_La_assemble : ByteArray := method_3_code
abbrev y_La_assemble : MethodName := ⟨"DigitChipLaw", "assemble", "(LDigitChip;[J)I"⟩
abbrev c_Ch_assemble : ByteArray := prog_1_method_3_code
abbrev y_Ch_assemble : MethodName := ⟨"DigitChip", "assemble", "()I"⟩
abbrev c_As_takeText : ByteArray := prog_2_method_3_code
abbrev y_As_takeText : MethodName := ⟨"DigitChip$Assembler", "takeText", "()Z"⟩
abbrev c_Ar_fill : ByteArray := prog_17_method_103_code
abbrev y_Ar_fill : MethodName := ⟨"java/util/Arrays", "fill", "([II)V"⟩
abbrev c_As_beginsName : ByteArray := prog_2_method_4_code
abbrev y_As_beginsName : MethodName := ⟨"DigitChip$Assembler", "beginsName", "(I)Z"⟩
abbrev c_As_endOfName : ByteArray := prog_2_method_5_code
abbrev y_As_endOfName : MethodName := ⟨"DigitChip$Assembler", "endOfName", "(I)I"⟩
abbrev c_As_takeName : ByteArray := prog_2_method_6_code
abbrev y_As_takeName : MethodName := ⟨"DigitChip$Assembler", "takeName", "(II)Z"⟩
abbrev c_As_findName : ByteArray := prog_2_method_9_code
abbrev y_As_findName : MethodName := ⟨"DigitChip$Assembler", "findName", "(Ljava/lang/String;II)I"⟩
abbrev c_St_charAt : ByteArray := prog_13_method_56_code
abbrev y_St_charAt : MethodName := ⟨"java/lang/String", "charAt", "(I)C"⟩
abbrev c_St_isLatin1 : ByteArray := prog_13_method_154_code
abbrev y_St_isLatin1 : MethodName := ⟨"java/lang/String", "isLatin1", "()Z"⟩
abbrev c_SL_charAt : ByteArray := prog_14_method_2_code
abbrev y_SL_charAt : MethodName := ⟨"java/lang/StringLatin1", "charAt", "([BI)C"⟩
abbrev c_St_checkIndex : ByteArray := prog_13_method_155_code
abbrev y_St_checkIndex : MethodName := ⟨"java/lang/String", "checkIndex", "(II)V"⟩
abbrev c_Pc_checkIndex : ByteArray := prog_18_method_11_code
abbrev y_Pc_checkIndex : MethodName := ⟨"jdk/internal/util/Preconditions", "checkIndex", "(IILjava/util/function/BiFunction;)I"⟩
abbrev c_SU_charAt : ByteArray := prog_15_method_83_code
abbrev y_SU_charAt : MethodName := ⟨"java/lang/StringUTF16", "charAt", "([BI)C"⟩
abbrev c_SU_checkIndex : ByteArray := prog_15_method_91_code
abbrev y_SU_checkIndex : MethodName := ⟨"java/lang/StringUTF16", "checkIndex", "(I[B)V"⟩
abbrev c_SU_length : ByteArray := prog_15_method_6_code
abbrev y_SU_length : MethodName := ⟨"java/lang/StringUTF16", "length", "([B)I"⟩
abbrev c_SU_getChar : ByteArray := prog_15_method_5_code
abbrev y_SU_getChar : MethodName := ⟨"java/lang/StringUTF16", "getChar", "([BI)C"⟩
abbrev c_As_isName : ByteArray := prog_2_method_10_code
abbrev y_As_isName : MethodName := ⟨"DigitChip$Assembler", "isName", "(Ljava/lang/String;III)Z"⟩
abbrev c_St_indexOf0 : ByteArray := prog_13_method_79_code
abbrev y_St_indexOf0 : MethodName := ⟨"java/lang/String", "indexOf", "(I)I"⟩
abbrev c_St_indexOf1 : ByteArray := prog_13_method_80_code
abbrev y_St_indexOf1 : MethodName := ⟨"java/lang/String", "indexOf", "(II)I"⟩
abbrev c_SL_indexOf : ByteArray := prog_14_method_22_code
abbrev y_SL_indexOf : MethodName := ⟨"java/lang/StringLatin1", "indexOf", "([BIII)I"⟩
abbrev c_SL_canEncode : ByteArray := prog_14_method_4_code
abbrev y_SL_canEncode : MethodName := ⟨"java/lang/StringLatin1", "canEncode", "(I)Z"⟩
abbrev c_Ma_max : ByteArray := prog_11_method_65_code
abbrev y_Ma_max : MethodName := ⟨"java/lang/Math", "max", "(II)I"⟩
abbrev c_Ma_min : ByteArray := prog_11_method_69_code
abbrev y_Ma_min : MethodName := ⟨"java/lang/Math", "min", "(II)I"⟩
abbrev c_SL_indexOfChar : ByteArray := prog_14_method_23_code
abbrev y_SL_indexOfChar : MethodName := ⟨"java/lang/StringLatin1", "indexOfChar", "([BIII)I"⟩
abbrev c_SU_indexOf : ByteArray := prog_15_method_40_code
abbrev y_SU_indexOf : MethodName := ⟨"java/lang/StringUTF16", "indexOf", "([BIII)I"⟩
abbrev c_SU_indexOfChar : ByteArray := prog_15_method_47_code
abbrev y_SU_indexOfChar : MethodName := ⟨"java/lang/StringUTF16", "indexOfChar", "([BIII)I"⟩
abbrev c_SU_checkBoundsBeginEnd : ByteArray := prog_15_method_93_code
abbrev y_SU_checkBoundsBeginEnd : MethodName := ⟨"java/lang/StringUTF16", "checkBoundsBeginEnd", "(II[B)V"⟩
abbrev c_St_checkBoundsBeginEnd : ByteArray := prog_13_method_158_code
abbrev y_St_checkBoundsBeginEnd : MethodName := ⟨"java/lang/String", "checkBoundsBeginEnd", "(III)V"⟩
abbrev c_Pc_checkFromToIndex : ByteArray := prog_18_method_12_code
abbrev y_Pc_checkFromToIndex : MethodName := ⟨"jdk/internal/util/Preconditions", "checkFromToIndex", "(IIILjava/util/function/BiFunction;)I"⟩
abbrev c_SU_indexOfCharUnsafe : ByteArray := prog_15_method_48_code
abbrev y_SU_indexOfCharUnsafe : MethodName := ⟨"java/lang/StringUTF16", "indexOfCharUnsafe", "([BIII)I"⟩
abbrev c_SU_indexOfSupplementary : ByteArray := prog_15_method_49_code
abbrev y_SU_indexOfSupplementary : MethodName := ⟨"java/lang/StringUTF16", "indexOfSupplementary", "([BIII)I"⟩
abbrev c_Cc_isValidCodePoint : ByteArray := prog_8_method_11_code
abbrev y_Cc_isValidCodePoint : MethodName := ⟨"java/lang/Character", "isValidCodePoint", "(I)Z"⟩
abbrev c_Cc_highSurrogate : ByteArray := prog_8_method_28_code
abbrev y_Cc_highSurrogate : MethodName := ⟨"java/lang/Character", "highSurrogate", "(I)C"⟩
abbrev c_Cc_lowSurrogate : ByteArray := prog_8_method_29_code
abbrev y_Cc_lowSurrogate : MethodName := ⟨"java/lang/Character", "lowSurrogate", "(I)C"⟩
abbrev c_As_takeLabel : ByteArray := prog_2_method_7_code
abbrev y_As_takeLabel : MethodName := ⟨"DigitChip$Assembler", "takeLabel", "(I)Z"⟩
abbrev c_As_wordOfName : ByteArray := prog_2_method_8_code
abbrev y_As_wordOfName : MethodName := ⟨"DigitChip$Assembler", "wordOfName", "(II)I"⟩
abbrev c_As_fillInLabels : ByteArray := prog_2_method_11_code
abbrev y_As_fillInLabels : MethodName := ⟨"DigitChip$Assembler", "fillInLabels", "()V"⟩
abbrev c_Th_init : ByteArray := prog_16_method_1_code
abbrev y_Th_init : MethodName := ⟨"java/lang/Throwable", "<init>", "()V"⟩
abbrev c_Ia_init : ByteArray := prog_10_method_1_code
abbrev y_Ia_init : MethodName := ⟨"java/lang/IllegalArgumentException", "<init>", "()V"⟩
abbrev c_Rx_init : ByteArray := prog_12_method_1_code
abbrev y_Rx_init : MethodName := ⟨"java/lang/RuntimeException", "<init>", "()V"⟩
abbrev c_Ex_init : ByteArray := prog_9_method_1_code
abbrev y_Ex_init : MethodName := ⟨"java/lang/Exception", "<init>", "()V"⟩
abbrev c_Pr_load : ByteArray := prog_3_method_2_code
abbrev y_Pr_load : MethodName := ⟨"DigitChip$Processor", "load", "([II)V"⟩
abbrev c_La_run : ByteArray := method_4_code
abbrev y_La_run : MethodName := ⟨"DigitChipLaw", "run", "(LDigitChip;I[J)I"⟩
abbrev c_Ch_run : ByteArray := prog_1_method_9_code
abbrev y_Ch_run : MethodName := ⟨"DigitChip", "run", "(I)I"⟩
abbrev c_Pr_doWords : ByteArray := prog_3_method_3_code
abbrev y_Pr_doWords : MethodName := ⟨"DigitChip$Processor", "doWords", "(I)I"⟩
abbrev c_Pr_doWord : ByteArray := prog_3_method_4_code
abbrev y_Pr_doWord : MethodName := ⟨"DigitChip$Processor", "doWord", "(I)V"⟩
abbrev c_Pr_doPlain : ByteArray := prog_3_method_5_code
abbrev y_Pr_doPlain : MethodName := ⟨"DigitChip$Processor", "doPlain", "(II)V"⟩
abbrev c_Pr_setStatus : ByteArray := prog_3_method_6_code
abbrev y_Pr_setStatus : MethodName := ⟨"DigitChip$Processor", "setStatus", "(I)V"⟩
abbrev c_Pr_clearStatus : ByteArray := prog_3_method_7_code
abbrev y_Pr_clearStatus : MethodName := ⟨"DigitChip$Processor", "clearStatus", "(I)V"⟩
abbrev c_Pr_hasStatus : ByteArray := prog_3_method_8_code
abbrev y_Pr_hasStatus : MethodName := ⟨"DigitChip$Processor", "hasStatus", "(I)Z"⟩
abbrev c_Pr_putDigit : ByteArray := prog_3_method_9_code
abbrev y_Pr_putDigit : MethodName := ⟨"DigitChip$Processor", "putDigit", "(I)V"⟩
abbrev c_Re_chooseField : ByteArray := prog_4_method_3_code
abbrev y_Re_chooseField : MethodName := ⟨"DigitChip$Registers", "chooseField", "(II)V"⟩
abbrev c_Re_chooseDigits : ByteArray := prog_4_method_4_code
abbrev y_Re_chooseDigits : MethodName := ⟨"DigitChip$Registers", "chooseDigits", "(II)V"⟩
abbrev c_Re_putPart : ByteArray := prog_4_method_6_code
abbrev y_Re_putPart : MethodName := ⟨"DigitChip$Registers", "putPart", "(IJ)V"⟩
abbrev c_Re_part : ByteArray := prog_4_method_5_code
abbrev y_Re_part : MethodName := ⟨"DigitChip$Registers", "part", "(I)J"⟩
abbrev c_Pr_lowerPointer : ByteArray := prog_3_method_10_code
abbrev y_Pr_lowerPointer : MethodName := ⟨"DigitChip$Processor", "lowerPointer", "()V"⟩
abbrev c_Pr_push : ByteArray := prog_3_method_12_code
abbrev y_Pr_push : MethodName := ⟨"DigitChip$Processor", "push", "()V"⟩
abbrev c_Pr_copy : ByteArray := prog_3_method_11_code
abbrev y_Pr_copy : MethodName := ⟨"DigitChip$Processor", "copy", "(II)V"⟩
abbrev c_Pr_lowerStack : ByteArray := prog_3_method_13_code
abbrev y_Pr_lowerStack : MethodName := ⟨"DigitChip$Processor", "lowerStack", "()V"⟩
abbrev c_Pr_takeKey : ByteArray := prog_3_method_14_code
abbrev y_Pr_takeKey : MethodName := ⟨"DigitChip$Processor", "takeKey", "()V"⟩
abbrev c_Wa_takeFirst : ByteArray := prog_5_method_3_code
abbrev y_Wa_takeFirst : MethodName := ⟨"DigitChip$Waiting", "takeFirst", "()I"⟩
abbrev c_Pr_exchangeMemory : ByteArray := prog_3_method_15_code
abbrev y_Pr_exchangeMemory : MethodName := ⟨"DigitChip$Processor", "exchangeMemory", "()V"⟩
abbrev c_Pr_doFieldWork : ByteArray := prog_3_method_16_code
abbrev y_Pr_doFieldWork : MethodName := ⟨"DigitChip$Processor", "doFieldWork", "(IJJJ)V"⟩
abbrev c_Pr_putResult : ByteArray := prog_3_method_17_code
abbrev y_Pr_putResult : MethodName := ⟨"DigitChip$Processor", "putResult", "(IJ)V"⟩
abbrev c_Ma_floorMod : ByteArray := prog_11_method_52_code
abbrev y_Ma_floorMod : MethodName := ⟨"java/lang/Math", "floorMod", "(JJ)J"⟩
abbrev c_Mo_init : ByteArray := prog_7_method_1_code
abbrev y_Mo_init : MethodName := ⟨"DigitChipModel", "<init>", "()V"⟩
abbrev c_Mo_thrown : ByteArray := prog_7_method_2_code
abbrev y_Mo_thrown : MethodName := ⟨"DigitChipModel", "thrown", "()I"⟩
abbrev c_Mo_run : ByteArray := prog_7_method_14_code
abbrev y_Mo_run : MethodName := ⟨"DigitChipModel", "run", "(I)I"⟩
abbrev c_Mo_step : ByteArray := prog_7_method_13_code
abbrev y_Mo_step : MethodName := ⟨"DigitChipModel", "step", "()V"⟩
abbrev c_Mo_field : ByteArray := prog_7_method_3_code
abbrev y_Mo_field : MethodName := ⟨"DigitChipModel", "field", "(I)V"⟩
abbrev c_Mo_move : ByteArray := prog_7_method_8_code
abbrev y_Mo_move : MethodName := ⟨"DigitChipModel", "move", "(I)V"⟩
abbrev c_Mo_write : ByteArray := prog_7_method_5_code
abbrev y_Mo_write : MethodName := ⟨"DigitChipModel", "write", "(IJ)V"⟩
abbrev c_Mo_part : ByteArray := prog_7_method_4_code
abbrev y_Mo_part : MethodName := ⟨"DigitChipModel", "part", "(I)J"⟩
abbrev c_Mo_change : ByteArray := prog_7_method_7_code
abbrev y_Mo_change : MethodName := ⟨"DigitChipModel", "change", "(II)V"⟩
abbrev c_Mo_reckon : ByteArray := prog_7_method_9_code
abbrev y_Mo_reckon : MethodName := ⟨"DigitChipModel", "reckon", "(I)V"⟩
abbrev c_Mo_become : ByteArray := prog_7_method_6_code
abbrev y_Mo_become : MethodName := ⟨"DigitChipModel", "become", "(IJ)V"⟩
abbrev c_Mo_mark : ByteArray := prog_7_method_10_code
abbrev y_Mo_mark : MethodName := ⟨"DigitChipModel", "mark", "(II)V"⟩
abbrev c_Mo_turn : ByteArray := prog_7_method_11_code
abbrev y_Mo_turn : MethodName := ⟨"DigitChipModel", "turn", "(II)V"⟩
abbrev c_Mo_pick : ByteArray := prog_7_method_12_code
abbrev y_Mo_pick : MethodName := ⟨"DigitChipModel", "pick", "(I)V"⟩
abbrev c_Mo_type : ByteArray := prog_7_method_24_code
abbrev y_Mo_type : MethodName := ⟨"DigitChipModel", "type", "(C)Z"⟩
abbrev c_Mo_assemble : ByteArray := prog_7_method_25_code
abbrev y_Mo_assemble : MethodName := ⟨"DigitChipModel", "assemble", "()I"⟩
abbrev c_Mo_read : ByteArray := prog_7_method_23_code
abbrev y_Mo_read : MethodName := ⟨"DigitChipModel", "read", "()I"⟩
abbrev c_Mo_take : ByteArray := prog_7_method_22_code
abbrev y_Mo_take : MethodName := ⟨"DigitChipModel", "take", "(II)Z"⟩
abbrev c_Mo_wordOf : ByteArray := prog_7_method_21_code
abbrev y_Mo_wordOf : MethodName := ⟨"DigitChipModel", "wordOf", "(II)I"⟩
abbrev c_Mo_numberAt : ByteArray := prog_7_method_17_code
abbrev y_Mo_numberAt : MethodName := ⟨"DigitChipModel", "numberAt", "(I)I"⟩
abbrev c_Mo_name : ByteArray := prog_7_method_19_code
abbrev y_Mo_name : MethodName := ⟨"DigitChipModel", "name", "(III)J"⟩
abbrev c_Mo_control : ByteArray := prog_7_method_15_code
abbrev y_Mo_control : MethodName := ⟨"DigitChipModel", "control", "(I)J"⟩
abbrev c_Mo_digit : ByteArray := prog_7_method_18_code
abbrev y_Mo_digit : MethodName := ⟨"DigitChipModel", "digit", "(C)I"⟩
abbrev c_Mo_fieldOf : ByteArray := prog_7_method_20_code
abbrev y_Mo_fieldOf : MethodName := ⟨"DigitChipModel", "fieldOf", "(C)I"⟩
abbrev c_Mo_sum : ByteArray := prog_7_method_16_code
abbrev y_Mo_sum : MethodName := ⟨"DigitChipModel", "sum", "(I)J"⟩
abbrev c_Mo_illAt : ByteArray := prog_7_method_26_code
abbrev y_Mo_illAt : MethodName := ⟨"DigitChipModel", "illAt", "()I"⟩
abbrev c_Mo_word : ByteArray := prog_7_method_27_code
abbrev y_Mo_word : MethodName := ⟨"DigitChipModel", "word", "(I)I"⟩
abbrev c_Mo_poke : ByteArray := prog_7_method_28_code
abbrev y_Mo_poke : MethodName := ⟨"DigitChipModel", "poke", "(II)Z"⟩
abbrev c_Mo_key : ByteArray := prog_7_method_29_code
abbrev y_Mo_key : MethodName := ⟨"DigitChipModel", "key", "(I)Z"⟩
abbrev c_Mo_keys : ByteArray := prog_7_method_30_code
abbrev y_Mo_keys : MethodName := ⟨"DigitChipModel", "keys", "()I"⟩
abbrev c_Mo_value : ByteArray := prog_7_method_31_code
abbrev y_Mo_value : MethodName := ⟨"DigitChipModel", "value", "(I)J"⟩
abbrev c_Mo_set : ByteArray := prog_7_method_32_code
abbrev y_Mo_set : MethodName := ⟨"DigitChipModel", "set", "(IJ)Z"⟩
abbrev c_Mo_state : ByteArray := prog_7_method_33_code
abbrev y_Mo_state : MethodName := ⟨"DigitChipModel", "state", "(I)I"⟩
abbrev c_Mo_go : ByteArray := prog_7_method_34_code
abbrev y_Mo_go : MethodName := ⟨"DigitChipModel", "go", "(I)Z"⟩
abbrev c_Mo_display : ByteArray := prog_7_method_36_code
abbrev y_Mo_display : MethodName := ⟨"DigitChipModel", "display", "(I)I"⟩
abbrev c_Mo_digitOf : ByteArray := prog_7_method_35_code
abbrev y_Mo_digitOf : MethodName := ⟨"DigitChipModel", "digitOf", "(II)I"⟩
def zT : List Cond := lw_tbl.filter goodWord
theorem zT_in {w : Cond} (h : w ∈ lw_tbl) (g : goodWord w = true) : w ∈ zT := List.mem_filter.mpr ⟨h, g⟩
theorem zT_tb {w : Cond} (h : w ∈ tables_1) : w ∈ lw_tbl := List.mem_append_right (k2_sels lw_privs) h
theorem zT_pv {w : Cond} (h : w ∈ k2_sels lw_privs) : w ∈ lw_tbl := List.mem_append_left tables_1 h
theorem b0 : (Jvm.Cond.initialized "DigitChipLaw") ∈ lw_tbl := zT_tb (List.mem_append_left (tables_1_2 ++ (tables_1_3 ++ tables_1_4)) (List.mem_of_getElem? (i := 0) rfl))
theorem q0 : (Jvm.Cond.initialized "DigitChipLaw") ∈ zT := zT_in b0 rfl
theorem b1 : (Jvm.Cond.initialized "DigitChip") ∈ lw_tbl := zT_tb (List.mem_append_left (tables_1_2 ++ (tables_1_3 ++ tables_1_4)) (List.mem_of_getElem? (i := 1) rfl))
theorem q1 : (Jvm.Cond.initialized "DigitChip") ∈ zT := zT_in b1 rfl
theorem b2 : (Jvm.Cond.initialized "DigitChip$Assembler") ∈ lw_tbl := zT_tb (List.mem_append_left (tables_1_2 ++ (tables_1_3 ++ tables_1_4)) (List.mem_of_getElem? (i := 2) rfl))
theorem q2 : (Jvm.Cond.initialized "DigitChip$Assembler") ∈ zT := zT_in b2 rfl
theorem b3 : (Jvm.Cond.initialized "java/lang/String") ∈ lw_tbl := zT_tb (List.mem_append_left (tables_1_2 ++ (tables_1_3 ++ tables_1_4)) (List.mem_of_getElem? (i := 3) rfl))
theorem q3 : (Jvm.Cond.initialized "java/lang/String") ∈ zT := zT_in b3 rfl
theorem b4 : (Jvm.Cond.initialized "DigitChip$Processor") ∈ lw_tbl := zT_tb (List.mem_append_left (tables_1_2 ++ (tables_1_3 ++ tables_1_4)) (List.mem_of_getElem? (i := 4) rfl))
theorem q4 : (Jvm.Cond.initialized "DigitChip$Processor") ∈ zT := zT_in b4 rfl
theorem b5 : (Jvm.Cond.initialized "DigitChip$Registers") ∈ lw_tbl := zT_tb (List.mem_append_left (tables_1_2 ++ (tables_1_3 ++ tables_1_4)) (List.mem_of_getElem? (i := 5) rfl))
theorem q5 : (Jvm.Cond.initialized "DigitChip$Registers") ∈ zT := zT_in b5 rfl
theorem b6 : (Jvm.Cond.initialized "DigitChip$Waiting") ∈ lw_tbl := zT_tb (List.mem_append_left (tables_1_2 ++ (tables_1_3 ++ tables_1_4)) (List.mem_of_getElem? (i := 6) rfl))
theorem q6 : (Jvm.Cond.initialized "DigitChip$Waiting") ∈ zT := zT_in b6 rfl
theorem b7 : (Jvm.Cond.initialized "DigitChipModel") ∈ lw_tbl := zT_tb (List.mem_append_left (tables_1_2 ++ (tables_1_3 ++ tables_1_4)) (List.mem_of_getElem? (i := 7) rfl))
theorem q7 : (Jvm.Cond.initialized "DigitChipModel") ∈ zT := zT_in b7 rfl
theorem b8 : (Jvm.Cond.initialized "java/util/Arrays") ∈ lw_tbl := zT_tb (List.mem_append_left (tables_1_2 ++ (tables_1_3 ++ tables_1_4)) (List.mem_of_getElem? (i := 8) rfl))
theorem q8 : (Jvm.Cond.initialized "java/util/Arrays") ∈ zT := zT_in b8 rfl
theorem b9 : (Jvm.Cond.initialized "java/lang/StringLatin1") ∈ lw_tbl := zT_tb (List.mem_append_left (tables_1_2 ++ (tables_1_3 ++ tables_1_4)) (List.mem_of_getElem? (i := 9) rfl))
theorem q9 : (Jvm.Cond.initialized "java/lang/StringLatin1") ∈ zT := zT_in b9 rfl
theorem b10 : (Jvm.Cond.initialized "jdk/internal/util/Preconditions") ∈ lw_tbl := zT_tb (List.mem_append_left (tables_1_2 ++ (tables_1_3 ++ tables_1_4)) (List.mem_of_getElem? (i := 10) rfl))
theorem q10 : (Jvm.Cond.initialized "jdk/internal/util/Preconditions") ∈ zT := zT_in b10 rfl
theorem b11 : (Jvm.Cond.initialized "java/lang/StringUTF16") ∈ lw_tbl := zT_tb (List.mem_append_left (tables_1_2 ++ (tables_1_3 ++ tables_1_4)) (List.mem_of_getElem? (i := 11) rfl))
theorem q11 : (Jvm.Cond.initialized "java/lang/StringUTF16") ∈ zT := zT_in b11 rfl
theorem b12 : (Jvm.Cond.initialized "java/lang/Math") ∈ lw_tbl := zT_tb (List.mem_append_left (tables_1_2 ++ (tables_1_3 ++ tables_1_4)) (List.mem_of_getElem? (i := 12) rfl))
theorem q12 : (Jvm.Cond.initialized "java/lang/Math") ∈ zT := zT_in b12 rfl
theorem b13 : (Jvm.Cond.initialized "java/lang/Character") ∈ lw_tbl := zT_tb (List.mem_append_left (tables_1_2 ++ (tables_1_3 ++ tables_1_4)) (List.mem_of_getElem? (i := 13) rfl))
theorem q13 : (Jvm.Cond.initialized "java/lang/Character") ∈ zT := zT_in b13 rfl
theorem b14 : (Jvm.Cond.initialized "java/lang/Throwable") ∈ lw_tbl := zT_tb (List.mem_append_left (tables_1_2 ++ (tables_1_3 ++ tables_1_4)) (List.mem_of_getElem? (i := 14) rfl))
theorem q14 : (Jvm.Cond.initialized "java/lang/Throwable") ∈ zT := zT_in b14 rfl
theorem b15 : (Jvm.Cond.initialized "java/lang/Exception") ∈ lw_tbl := zT_tb (List.mem_append_left (tables_1_2 ++ (tables_1_3 ++ tables_1_4)) (List.mem_of_getElem? (i := 15) rfl))
theorem q15 : (Jvm.Cond.initialized "java/lang/Exception") ∈ zT := zT_in b15 rfl
theorem b16 : (Jvm.Cond.initialized "java/lang/RuntimeException") ∈ lw_tbl := zT_tb (List.mem_append_left (tables_1_2 ++ (tables_1_3 ++ tables_1_4)) (List.mem_of_getElem? (i := 16) rfl))
theorem q16 : (Jvm.Cond.initialized "java/lang/RuntimeException") ∈ zT := zT_in b16 rfl
theorem b17 : (Jvm.Cond.initialized "java/lang/IllegalArgumentException") ∈ lw_tbl := zT_tb (List.mem_append_left (tables_1_2 ++ (tables_1_3 ++ tables_1_4)) (List.mem_of_getElem? (i := 17) rfl))
theorem q17 : (Jvm.Cond.initialized "java/lang/IllegalArgumentException") ∈ zT := zT_in b17 rfl
theorem b18 : (Jvm.Cond.classLink "DigitChipLaw" (8 : Nat) "DigitChip") ∈ lw_tbl := zT_tb (List.mem_append_left (tables_1_2 ++ (tables_1_3 ++ tables_1_4)) (List.mem_of_getElem? (i := 18) rfl))
theorem q18 : (Jvm.Cond.classLink "DigitChipLaw" (8 : Nat) "DigitChip") ∈ zT := zT_in b18 rfl
theorem b19 : (Jvm.Cond.instantiable "DigitChip" (2 : Nat)) ∈ lw_tbl := zT_tb (List.mem_append_left (tables_1_2 ++ (tables_1_3 ++ tables_1_4)) (List.mem_of_getElem? (i := 19) rfl))
theorem q19 : (Jvm.Cond.instantiable "DigitChip" (2 : Nat)) ∈ zT := zT_in b19 rfl
theorem b20 : (Jvm.Cond.methodLink "DigitChipLaw" (19 : Nat) ({ cls := "DigitChip", name := "<init>", desc := "()V" } : Jvm.MethodName)) ∈ lw_tbl := zT_tb (List.mem_append_left (tables_1_2 ++ (tables_1_3 ++ tables_1_4)) (List.mem_of_getElem? (i := 20) rfl))
theorem q20 : (Jvm.Cond.methodLink "DigitChipLaw" (19 : Nat) ({ cls := "DigitChip", name := "<init>", desc := "()V" } : Jvm.MethodName)) ∈ zT := zT_in b20 rfl
theorem b21 : (Jvm.Cond.instanceMethod ({ cls := "DigitChip", name := "<init>", desc := "()V" } : Jvm.MethodName)) ∈ lw_tbl := zT_tb (List.mem_append_left (tables_1_2 ++ (tables_1_3 ++ tables_1_4)) (List.mem_of_getElem? (i := 21) rfl))
theorem q21 : (Jvm.Cond.instanceMethod ({ cls := "DigitChip", name := "<init>", desc := "()V" } : Jvm.MethodName)) ∈ zT := zT_in b21 rfl
theorem b22 : (Jvm.Cond.code ({ cls := "DigitChip", name := "<init>", desc := "()V" } : Jvm.MethodName) prog_1_method_1_code (1 : Nat) (Option.none : Option Jvm.ClassFile.FieldType)) ∈ lw_tbl := zT_tb (List.mem_append_left (tables_1_2 ++ (tables_1_3 ++ tables_1_4)) (List.mem_of_getElem? (i := 22) rfl))
theorem q22 : (Jvm.Cond.code ({ cls := "DigitChip", name := "<init>", desc := "()V" } : Jvm.MethodName) prog_1_method_1_code (1 : Nat) (Option.none : Option Jvm.ClassFile.FieldType)) ∈ zT := zT_in b22 rfl
theorem b23 : (Jvm.Cond.methodLink "DigitChip" (1 : Nat) ({ cls := "java/lang/Object", name := "<init>", desc := "()V" } : Jvm.MethodName)) ∈ lw_tbl := zT_tb (List.mem_append_left (tables_1_2 ++ (tables_1_3 ++ tables_1_4)) (List.mem_of_getElem? (i := 23) rfl))
theorem q23 : (Jvm.Cond.methodLink "DigitChip" (1 : Nat) ({ cls := "java/lang/Object", name := "<init>", desc := "()V" } : Jvm.MethodName)) ∈ zT := zT_in b23 rfl
theorem b24 : (Jvm.Cond.instanceMethod ({ cls := "java/lang/Object", name := "<init>", desc := "()V" } : Jvm.MethodName)) ∈ lw_tbl := zT_tb (List.mem_append_left (tables_1_2 ++ (tables_1_3 ++ tables_1_4)) (List.mem_of_getElem? (i := 24) rfl))
theorem q24 : (Jvm.Cond.instanceMethod ({ cls := "java/lang/Object", name := "<init>", desc := "()V" } : Jvm.MethodName)) ∈ zT := zT_in b24 rfl
theorem b25 : (Jvm.Cond.code ({ cls := "java/lang/Object", name := "<init>", desc := "()V" } : Jvm.MethodName) object_method_1_code (1 : Nat) (Option.none : Option Jvm.ClassFile.FieldType)) ∈ lw_tbl := zT_tb (List.mem_append_left (tables_1_2 ++ (tables_1_3 ++ tables_1_4)) (List.mem_of_getElem? (i := 25) rfl))
theorem q25 : (Jvm.Cond.code ({ cls := "java/lang/Object", name := "<init>", desc := "()V" } : Jvm.MethodName) object_method_1_code (1 : Nat) (Option.none : Option Jvm.ClassFile.FieldType)) ∈ zT := zT_in b25 rfl
theorem b26 : (Jvm.Cond.classLink "DigitChip" (7 : Nat) "DigitChip$Assembler") ∈ lw_tbl := zT_tb (List.mem_append_left (tables_1_2 ++ (tables_1_3 ++ tables_1_4)) (List.mem_of_getElem? (i := 26) rfl))
theorem q26 : (Jvm.Cond.classLink "DigitChip" (7 : Nat) "DigitChip$Assembler") ∈ zT := zT_in b26 rfl
theorem b27 : (Jvm.Cond.instantiable "DigitChip$Assembler" (8 : Nat)) ∈ lw_tbl := zT_tb (List.mem_append_left (tables_1_2 ++ (tables_1_3 ++ tables_1_4)) (List.mem_of_getElem? (i := 27) rfl))
theorem q27 : (Jvm.Cond.instantiable "DigitChip$Assembler" (8 : Nat)) ∈ zT := zT_in b27 rfl
theorem b28 : (Jvm.Cond.methodLinkNest "DigitChip" (9 : Nat) ({ cls := "DigitChip$Assembler", name := "<init>", desc := "()V" } : Jvm.MethodName) "DigitChip") ∈ lw_tbl := zT_tb (List.mem_append_left (tables_1_2 ++ (tables_1_3 ++ tables_1_4)) (List.mem_of_getElem? (i := 28) rfl))
theorem b29 : (Jvm.Cond.instanceMethod ({ cls := "DigitChip$Assembler", name := "<init>", desc := "()V" } : Jvm.MethodName)) ∈ lw_tbl := zT_tb (List.mem_append_left (tables_1_2 ++ (tables_1_3 ++ tables_1_4)) (List.mem_of_getElem? (i := 29) rfl))
theorem q29 : (Jvm.Cond.instanceMethod ({ cls := "DigitChip$Assembler", name := "<init>", desc := "()V" } : Jvm.MethodName)) ∈ zT := zT_in b29 rfl
theorem b30 : (Jvm.Cond.code ({ cls := "DigitChip$Assembler", name := "<init>", desc := "()V" } : Jvm.MethodName) prog_2_method_1_code (1 : Nat) (Option.none : Option Jvm.ClassFile.FieldType)) ∈ lw_tbl := zT_tb (List.mem_append_left (tables_1_2 ++ (tables_1_3 ++ tables_1_4)) (List.mem_of_getElem? (i := 30) rfl))
theorem q30 : (Jvm.Cond.code ({ cls := "DigitChip$Assembler", name := "<init>", desc := "()V" } : Jvm.MethodName) prog_2_method_1_code (1 : Nat) (Option.none : Option Jvm.ClassFile.FieldType)) ∈ zT := zT_in b30 rfl
theorem b31 : (Jvm.Cond.methodLink "DigitChip$Assembler" (3 : Nat) ({ cls := "java/lang/Object", name := "<init>", desc := "()V" } : Jvm.MethodName)) ∈ lw_tbl := zT_tb (List.mem_append_left (tables_1_2 ++ (tables_1_3 ++ tables_1_4)) (List.mem_of_getElem? (i := 31) rfl))
theorem q31 : (Jvm.Cond.methodLink "DigitChip$Assembler" (3 : Nat) ({ cls := "java/lang/Object", name := "<init>", desc := "()V" } : Jvm.MethodName)) ∈ zT := zT_in b31 rfl
theorem b32 : (Jvm.Cond.stringRef "DigitChip$Assembler" (19 : Nat) "abcdefghijklmnopqrstuvwxyz") ∈ lw_tbl := zT_tb (List.mem_append_left (tables_1_2 ++ (tables_1_3 ++ tables_1_4)) (List.mem_of_getElem? (i := 32) rfl))
theorem b33 : (Jvm.Cond.methodLink "DigitChip$Assembler" (21 : Nat) ({ cls := "java/lang/String", name := "length", desc := "()I" } : Jvm.MethodName)) ∈ lw_tbl := zT_tb (List.mem_append_left (tables_1_2 ++ (tables_1_3 ++ tables_1_4)) (List.mem_of_getElem? (i := 33) rfl))
theorem q33 : (Jvm.Cond.methodLink "DigitChip$Assembler" (21 : Nat) ({ cls := "java/lang/String", name := "length", desc := "()I" } : Jvm.MethodName)) ∈ zT := zT_in b33 rfl
theorem b34 : (Jvm.Cond.instanceMethod ({ cls := "java/lang/String", name := "length", desc := "()I" } : Jvm.MethodName)) ∈ lw_tbl := zT_tb (List.mem_append_left (tables_1_2 ++ (tables_1_3 ++ tables_1_4)) (List.mem_of_getElem? (i := 34) rfl))
theorem q34 : (Jvm.Cond.instanceMethod ({ cls := "java/lang/String", name := "length", desc := "()I" } : Jvm.MethodName)) ∈ zT := zT_in b34 rfl
theorem b35 : (Jvm.Cond.selects "java/lang/String" ({ cls := "java/lang/String", name := "length", desc := "()I" } : Jvm.MethodName) ({ cls := "java/lang/String", name := "length", desc := "()I" } : Jvm.MethodName)) ∈ lw_tbl := zT_tb (List.mem_append_left (tables_1_2 ++ (tables_1_3 ++ tables_1_4)) (List.mem_of_getElem? (i := 35) rfl))
theorem q35 : (Jvm.Cond.selects "java/lang/String" ({ cls := "java/lang/String", name := "length", desc := "()I" } : Jvm.MethodName) ({ cls := "java/lang/String", name := "length", desc := "()I" } : Jvm.MethodName)) ∈ zT := zT_in b35 rfl
theorem b36 : (Jvm.Cond.code ({ cls := "java/lang/String", name := "length", desc := "()I" } : Jvm.MethodName) prog_13_method_54_code (1 : Nat) (Option.some Jvm.ClassFile.FieldType.int)) ∈ lw_tbl := zT_tb (List.mem_append_left (tables_1_2 ++ (tables_1_3 ++ tables_1_4)) (List.mem_of_getElem? (i := 36) rfl))
theorem q36 : (Jvm.Cond.code ({ cls := "java/lang/String", name := "length", desc := "()I" } : Jvm.MethodName) prog_13_method_54_code (1 : Nat) (Option.some Jvm.ClassFile.FieldType.int)) ∈ zT := zT_in b36 rfl
theorem b37 : (Jvm.Cond.methodLink "java/lang/String" (335 : Nat) ({ cls := "java/lang/String", name := "coder", desc := "()B" } : Jvm.MethodName)) ∈ lw_tbl := zT_tb (List.mem_append_left (tables_1_2 ++ (tables_1_3 ++ tables_1_4)) (List.mem_of_getElem? (i := 37) rfl))
theorem q37 : (Jvm.Cond.methodLink "java/lang/String" (335 : Nat) ({ cls := "java/lang/String", name := "coder", desc := "()B" } : Jvm.MethodName)) ∈ zT := zT_in b37 rfl
theorem b38 : (Jvm.Cond.instanceMethod ({ cls := "java/lang/String", name := "coder", desc := "()B" } : Jvm.MethodName)) ∈ lw_tbl := zT_tb (List.mem_append_left (tables_1_2 ++ (tables_1_3 ++ tables_1_4)) (List.mem_of_getElem? (i := 38) rfl))
theorem q38 : (Jvm.Cond.instanceMethod ({ cls := "java/lang/String", name := "coder", desc := "()B" } : Jvm.MethodName)) ∈ zT := zT_in b38 rfl
theorem b39 : (Jvm.Cond.selects "java/lang/String" ({ cls := "java/lang/String", name := "coder", desc := "()B" } : Jvm.MethodName) ({ cls := "java/lang/String", name := "coder", desc := "()B" } : Jvm.MethodName)) ∈ lw_tbl := zT_tb (List.mem_append_left (tables_1_2 ++ (tables_1_3 ++ tables_1_4)) (List.mem_of_getElem? (i := 39) rfl))
theorem q39 : (Jvm.Cond.selects "java/lang/String" ({ cls := "java/lang/String", name := "coder", desc := "()B" } : Jvm.MethodName) ({ cls := "java/lang/String", name := "coder", desc := "()B" } : Jvm.MethodName)) ∈ zT := zT_in b39 rfl
theorem b40 : (Jvm.Cond.code ({ cls := "java/lang/String", name := "coder", desc := "()B" } : Jvm.MethodName) prog_13_method_152_code (1 : Nat) (Option.some Jvm.ClassFile.FieldType.byte)) ∈ lw_tbl := zT_tb (List.mem_append_left (tables_1_2 ++ (tables_1_3 ++ tables_1_4)) (List.mem_of_getElem? (i := 40) rfl))
theorem q40 : (Jvm.Cond.code ({ cls := "java/lang/String", name := "coder", desc := "()B" } : Jvm.MethodName) prog_13_method_152_code (1 : Nat) (Option.some Jvm.ClassFile.FieldType.byte)) ∈ zT := zT_in b40 rfl
theorem b41 : (Jvm.Cond.fieldLink "java/lang/String" (38 : Nat) "java/lang/String" "COMPACT_STRINGS" "Z") ∈ lw_tbl := zT_tb (List.mem_append_left (tables_1_2 ++ (tables_1_3 ++ tables_1_4)) (List.mem_of_getElem? (i := 41) rfl))
theorem q41 : (Jvm.Cond.fieldLink "java/lang/String" (38 : Nat) "java/lang/String" "COMPACT_STRINGS" "Z") ∈ zT := zT_in b41 rfl
theorem b42 : (Jvm.Cond.laysStatic "java/lang/String" "COMPACT_STRINGS" "Z") ∈ lw_tbl := zT_tb (List.mem_append_left (tables_1_2 ++ (tables_1_3 ++ tables_1_4)) (List.mem_of_getElem? (i := 42) rfl))
theorem b43 : (Jvm.Cond.fieldLink "DigitChip$Assembler" (11 : Nat) "DigitChip$Assembler" "text" "[C") ∈ lw_tbl := zT_tb (List.mem_append_left (tables_1_2 ++ (tables_1_3 ++ tables_1_4)) (List.mem_of_getElem? (i := 43) rfl))
theorem q43 : (Jvm.Cond.fieldLink "DigitChip$Assembler" (11 : Nat) "DigitChip$Assembler" "text" "[C") ∈ zT := zT_in b43 rfl
theorem b44 : (Jvm.Cond.fieldLink "DigitChip$Assembler" (15 : Nat) "DigitChip$Assembler" "length" "I") ∈ lw_tbl := zT_tb (List.mem_append_left (tables_1_2 ++ (tables_1_3 ++ tables_1_4)) (List.mem_of_getElem? (i := 44) rfl))
theorem q44 : (Jvm.Cond.fieldLink "DigitChip$Assembler" (15 : Nat) "DigitChip$Assembler" "length" "I") ∈ zT := zT_in b44 rfl
theorem b45 : (Jvm.Cond.fieldLink "DigitChip$Assembler" (26 : Nat) "DigitChip$Assembler" "labels" "[I") ∈ lw_tbl := zT_tb (List.mem_append_left (tables_1_2 ++ (tables_1_3 ++ tables_1_4)) (List.mem_of_getElem? (i := 45) rfl))
theorem q45 : (Jvm.Cond.fieldLink "DigitChip$Assembler" (26 : Nat) "DigitChip$Assembler" "labels" "[I") ∈ zT := zT_in b45 rfl
theorem b46 : (Jvm.Cond.fieldLink "DigitChip$Assembler" (30 : Nat) "DigitChip$Assembler" "begins" "[I") ∈ lw_tbl := zT_tb (List.mem_append_left (tables_1_2 ++ (tables_1_3 ++ tables_1_4)) (List.mem_of_getElem? (i := 46) rfl))
theorem q46 : (Jvm.Cond.fieldLink "DigitChip$Assembler" (30 : Nat) "DigitChip$Assembler" "begins" "[I") ∈ zT := zT_in b46 rfl
theorem b47 : (Jvm.Cond.fieldLink "DigitChip$Assembler" (33 : Nat) "DigitChip$Assembler" "choice" "I") ∈ lw_tbl := zT_tb (List.mem_append_left (tables_1_2 ++ (tables_1_3 ++ tables_1_4)) (List.mem_of_getElem? (i := 47) rfl))
theorem q47 : (Jvm.Cond.fieldLink "DigitChip$Assembler" (33 : Nat) "DigitChip$Assembler" "choice" "I") ∈ zT := zT_in b47 rfl
theorem b48 : (Jvm.Cond.fieldLink "DigitChip$Assembler" (36 : Nat) "DigitChip$Assembler" "words" "[I") ∈ lw_tbl := zT_tb (List.mem_append_left (tables_1_2 ++ (tables_1_3 ++ tables_1_4)) (List.mem_of_getElem? (i := 48) rfl))
theorem q48 : (Jvm.Cond.fieldLink "DigitChip$Assembler" (36 : Nat) "DigitChip$Assembler" "words" "[I") ∈ zT := zT_in b48 rfl
theorem b49 : (Jvm.Cond.fieldLink "DigitChip" (34 : Nat) "DigitChip$Assembler" "words" "[I") ∈ lw_tbl := zT_tb (List.mem_append_left (tables_1_2 ++ (tables_1_3 ++ tables_1_4)) (List.mem_of_getElem? (i := 49) rfl))
theorem q49 : (Jvm.Cond.fieldLink "DigitChip" (34 : Nat) "DigitChip$Assembler" "words" "[I") ∈ zT := zT_in b49 rfl
theorem b50 : (Jvm.Cond.fieldLink "DigitChip$Assembler" (39 : Nat) "DigitChip$Assembler" "count" "I") ∈ lw_tbl := zT_tb (List.mem_append_left (tables_1_2 ++ (tables_1_3 ++ tables_1_4)) (List.mem_of_getElem? (i := 50) rfl))
theorem q50 : (Jvm.Cond.fieldLink "DigitChip$Assembler" (39 : Nat) "DigitChip$Assembler" "count" "I") ∈ zT := zT_in b50 rfl
theorem b51 : (Jvm.Cond.fieldLink "DigitChip" (38 : Nat) "DigitChip$Assembler" "count" "I") ∈ lw_tbl := zT_tb (List.mem_append_left (tables_1_2 ++ (tables_1_3 ++ tables_1_4)) (List.mem_of_getElem? (i := 51) rfl))
theorem q51 : (Jvm.Cond.fieldLink "DigitChip" (38 : Nat) "DigitChip$Assembler" "count" "I") ∈ zT := zT_in b51 rfl
theorem b52 : (Jvm.Cond.fieldLink "DigitChip$Assembler" (42 : Nat) "DigitChip$Assembler" "ill" "I") ∈ lw_tbl := zT_tb (List.mem_append_left (tables_1_2 ++ (tables_1_3 ++ tables_1_4)) (List.mem_of_getElem? (i := 52) rfl))
theorem q52 : (Jvm.Cond.fieldLink "DigitChip$Assembler" (42 : Nat) "DigitChip$Assembler" "ill" "I") ∈ zT := zT_in b52 rfl
theorem b53 : (Jvm.Cond.fieldLink "DigitChip" (46 : Nat) "DigitChip$Assembler" "ill" "I") ∈ lw_tbl := zT_tb (List.mem_append_left (tables_1_2 ++ (tables_1_3 ++ tables_1_4)) (List.mem_of_getElem? (i := 53) rfl))
theorem q53 : (Jvm.Cond.fieldLink "DigitChip" (46 : Nat) "DigitChip$Assembler" "ill" "I") ∈ zT := zT_in b53 rfl
theorem b54 : (Jvm.Cond.laysFinal "DigitChip$Assembler" "DigitChip$Assembler" "text" "[C") ∈ lw_tbl := zT_tb (List.mem_append_left (tables_1_2 ++ (tables_1_3 ++ tables_1_4)) (List.mem_of_getElem? (i := 54) rfl))
theorem q54 : (Jvm.Cond.laysFinal "DigitChip$Assembler" "DigitChip$Assembler" "text" "[C") ∈ zT := zT_in b54 rfl
theorem b55 : (Jvm.Cond.soleField "DigitChip$Assembler" "text") ∈ lw_tbl := zT_tb (List.mem_append_left (tables_1_2 ++ (tables_1_3 ++ tables_1_4)) (List.mem_of_getElem? (i := 55) rfl))
theorem b56 : (Jvm.Cond.lays "DigitChip$Assembler" "DigitChip$Assembler" "length" "I") ∈ lw_tbl := zT_tb (List.mem_append_left (tables_1_2 ++ (tables_1_3 ++ tables_1_4)) (List.mem_of_getElem? (i := 56) rfl))
theorem q56 : (Jvm.Cond.lays "DigitChip$Assembler" "DigitChip$Assembler" "length" "I") ∈ zT := zT_in b56 rfl
theorem b57 : (Jvm.Cond.soleField "DigitChip$Assembler" "length") ∈ lw_tbl := zT_tb (List.mem_append_left (tables_1_2 ++ (tables_1_3 ++ tables_1_4)) (List.mem_of_getElem? (i := 57) rfl))
theorem b58 : (Jvm.Cond.laysFinal "DigitChip$Assembler" "DigitChip$Assembler" "labels" "[I") ∈ lw_tbl := zT_tb (List.mem_append_left (tables_1_2 ++ (tables_1_3 ++ tables_1_4)) (List.mem_of_getElem? (i := 58) rfl))
theorem q58 : (Jvm.Cond.laysFinal "DigitChip$Assembler" "DigitChip$Assembler" "labels" "[I") ∈ zT := zT_in b58 rfl
theorem b59 : (Jvm.Cond.soleField "DigitChip$Assembler" "labels") ∈ lw_tbl := zT_tb (List.mem_append_left (tables_1_2 ++ (tables_1_3 ++ tables_1_4)) (List.mem_of_getElem? (i := 59) rfl))
theorem b60 : (Jvm.Cond.laysFinal "DigitChip$Assembler" "DigitChip$Assembler" "begins" "[I") ∈ lw_tbl := zT_tb (List.mem_append_left (tables_1_2 ++ (tables_1_3 ++ tables_1_4)) (List.mem_of_getElem? (i := 60) rfl))
theorem q60 : (Jvm.Cond.laysFinal "DigitChip$Assembler" "DigitChip$Assembler" "begins" "[I") ∈ zT := zT_in b60 rfl
theorem b61 : (Jvm.Cond.soleField "DigitChip$Assembler" "begins") ∈ lw_tbl := zT_tb (List.mem_append_left (tables_1_2 ++ (tables_1_3 ++ tables_1_4)) (List.mem_of_getElem? (i := 61) rfl))
theorem b62 : (Jvm.Cond.lays "DigitChip$Assembler" "DigitChip$Assembler" "choice" "I") ∈ lw_tbl := zT_tb (List.mem_append_left (tables_1_2 ++ (tables_1_3 ++ tables_1_4)) (List.mem_of_getElem? (i := 62) rfl))
theorem q62 : (Jvm.Cond.lays "DigitChip$Assembler" "DigitChip$Assembler" "choice" "I") ∈ zT := zT_in b62 rfl
theorem b63 : (Jvm.Cond.soleField "DigitChip$Assembler" "choice") ∈ lw_tbl := zT_tb (List.mem_append_left (tables_1_2 ++ (tables_1_3 ++ tables_1_4)) (List.mem_of_getElem? (i := 63) rfl))
theorem b64 : (Jvm.Cond.laysFinal "DigitChip$Assembler" "DigitChip$Assembler" "words" "[I") ∈ lw_tbl := zT_tb (List.mem_append_left (tables_1_2 ++ (tables_1_3 ++ tables_1_4)) (List.mem_of_getElem? (i := 64) rfl))
theorem q64 : (Jvm.Cond.laysFinal "DigitChip$Assembler" "DigitChip$Assembler" "words" "[I") ∈ zT := zT_in b64 rfl
theorem b65 : (Jvm.Cond.soleField "DigitChip$Assembler" "words") ∈ lw_tbl := zT_tb (List.mem_append_left (tables_1_2 ++ (tables_1_3 ++ tables_1_4)) (List.mem_of_getElem? (i := 65) rfl))
theorem b66 : (Jvm.Cond.lays "DigitChip$Assembler" "DigitChip$Assembler" "count" "I") ∈ lw_tbl := zT_tb (List.mem_append_left (tables_1_2 ++ (tables_1_3 ++ tables_1_4)) (List.mem_of_getElem? (i := 66) rfl))
theorem q66 : (Jvm.Cond.lays "DigitChip$Assembler" "DigitChip$Assembler" "count" "I") ∈ zT := zT_in b66 rfl
theorem b67 : (Jvm.Cond.soleField "DigitChip$Assembler" "count") ∈ lw_tbl := zT_tb (List.mem_append_left (tables_1_2 ++ (tables_1_3 ++ tables_1_4)) (List.mem_of_getElem? (i := 67) rfl))
theorem b68 : (Jvm.Cond.lays "DigitChip$Assembler" "DigitChip$Assembler" "ill" "I") ∈ lw_tbl := zT_tb (List.mem_append_left (tables_1_2 ++ (tables_1_3 ++ tables_1_4)) (List.mem_of_getElem? (i := 68) rfl))
theorem q68 : (Jvm.Cond.lays "DigitChip$Assembler" "DigitChip$Assembler" "ill" "I") ∈ zT := zT_in b68 rfl
theorem b69 : (Jvm.Cond.soleField "DigitChip$Assembler" "ill") ∈ lw_tbl := zT_tb (List.mem_append_left (tables_1_2 ++ (tables_1_3 ++ tables_1_4)) (List.mem_of_getElem? (i := 69) rfl))
theorem b70 : (Jvm.Cond.superclass "DigitChip$Assembler" "java/lang/Object") ∈ lw_tbl := zT_tb (List.mem_append_left (tables_1_2 ++ (tables_1_3 ++ tables_1_4)) (List.mem_of_getElem? (i := 70) rfl))
theorem b71 : (Jvm.Cond.arrayClass Jvm.ClassFile.FieldType.char) ∈ lw_tbl := zT_tb (List.mem_append_left (tables_1_2 ++ (tables_1_3 ++ tables_1_4)) (List.mem_of_getElem? (i := 71) rfl))
theorem q71 : (Jvm.Cond.arrayClass Jvm.ClassFile.FieldType.char) ∈ zT := zT_in b71 rfl
theorem b72 : (Jvm.Cond.arrayClass Jvm.ClassFile.FieldType.byte) ∈ lw_tbl := zT_tb (List.mem_append_left (tables_1_2 ++ (tables_1_3 ++ tables_1_4)) (List.mem_of_getElem? (i := 72) rfl))
theorem q72 : (Jvm.Cond.arrayClass Jvm.ClassFile.FieldType.byte) ∈ zT := zT_in b72 rfl
theorem b73 : (Jvm.Cond.arrayClass Jvm.ClassFile.FieldType.int) ∈ lw_tbl := zT_tb (List.mem_append_left (tables_1_2 ++ (tables_1_3 ++ tables_1_4)) (List.mem_of_getElem? (i := 73) rfl))
theorem q73 : (Jvm.Cond.arrayClass Jvm.ClassFile.FieldType.int) ∈ zT := zT_in b73 rfl
theorem b74 : (Jvm.Cond.classLink "DigitChip" (16 : Nat) "DigitChip$Processor") ∈ lw_tbl := zT_tb (List.mem_append_left (tables_1_2 ++ (tables_1_3 ++ tables_1_4)) (List.mem_of_getElem? (i := 74) rfl))
theorem q74 : (Jvm.Cond.classLink "DigitChip" (16 : Nat) "DigitChip$Processor") ∈ zT := zT_in b74 rfl
theorem b75 : (Jvm.Cond.instantiable "DigitChip$Processor" (9 : Nat)) ∈ lw_tbl := zT_tb (List.mem_append_left (tables_1_2 ++ (tables_1_3 ++ tables_1_4)) (List.mem_of_getElem? (i := 75) rfl))
theorem q75 : (Jvm.Cond.instantiable "DigitChip$Processor" (9 : Nat)) ∈ zT := zT_in b75 rfl
theorem b76 : (Jvm.Cond.methodLinkNest "DigitChip" (18 : Nat) ({ cls := "DigitChip$Processor", name := "<init>", desc := "()V" } : Jvm.MethodName) "DigitChip") ∈ lw_tbl := zT_tb (List.mem_append_left (tables_1_2 ++ (tables_1_3 ++ tables_1_4)) (List.mem_of_getElem? (i := 76) rfl))
theorem b77 : (Jvm.Cond.instanceMethod ({ cls := "DigitChip$Processor", name := "<init>", desc := "()V" } : Jvm.MethodName)) ∈ lw_tbl := zT_tb (List.mem_append_left (tables_1_2 ++ (tables_1_3 ++ tables_1_4)) (List.mem_of_getElem? (i := 77) rfl))
theorem q77 : (Jvm.Cond.instanceMethod ({ cls := "DigitChip$Processor", name := "<init>", desc := "()V" } : Jvm.MethodName)) ∈ zT := zT_in b77 rfl
theorem b78 : (Jvm.Cond.code ({ cls := "DigitChip$Processor", name := "<init>", desc := "()V" } : Jvm.MethodName) prog_3_method_1_code (1 : Nat) (Option.none : Option Jvm.ClassFile.FieldType)) ∈ lw_tbl := zT_tb (List.mem_append_left (tables_1_2 ++ (tables_1_3 ++ tables_1_4)) (List.mem_of_getElem? (i := 78) rfl))
theorem q78 : (Jvm.Cond.code ({ cls := "DigitChip$Processor", name := "<init>", desc := "()V" } : Jvm.MethodName) prog_3_method_1_code (1 : Nat) (Option.none : Option Jvm.ClassFile.FieldType)) ∈ zT := zT_in b78 rfl
theorem b79 : (Jvm.Cond.methodLink "DigitChip$Processor" (3 : Nat) ({ cls := "java/lang/Object", name := "<init>", desc := "()V" } : Jvm.MethodName)) ∈ lw_tbl := zT_tb (List.mem_append_left (tables_1_2 ++ (tables_1_3 ++ tables_1_4)) (List.mem_of_getElem? (i := 79) rfl))
theorem q79 : (Jvm.Cond.methodLink "DigitChip$Processor" (3 : Nat) ({ cls := "java/lang/Object", name := "<init>", desc := "()V" } : Jvm.MethodName)) ∈ zT := zT_in b79 rfl
theorem b80 : (Jvm.Cond.classLink "DigitChip$Processor" (15 : Nat) "DigitChip$Registers") ∈ lw_tbl := zT_tb (List.mem_append_left (tables_1_2 ++ (tables_1_3 ++ tables_1_4)) (List.mem_of_getElem? (i := 80) rfl))
theorem q80 : (Jvm.Cond.classLink "DigitChip$Processor" (15 : Nat) "DigitChip$Registers") ∈ zT := zT_in b80 rfl
theorem b81 : (Jvm.Cond.instantiable "DigitChip$Registers" (3 : Nat)) ∈ lw_tbl := zT_tb (List.mem_append_left (tables_1_2 ++ (tables_1_3 ++ tables_1_4)) (List.mem_of_getElem? (i := 81) rfl))
theorem q81 : (Jvm.Cond.instantiable "DigitChip$Registers" (3 : Nat)) ∈ zT := zT_in b81 rfl
theorem b82 : (Jvm.Cond.methodLinkNest "DigitChip$Processor" (17 : Nat) ({ cls := "DigitChip$Registers", name := "<init>", desc := "()V" } : Jvm.MethodName) "DigitChip") ∈ lw_tbl := zT_tb (List.mem_append_left (tables_1_2 ++ (tables_1_3 ++ tables_1_4)) (List.mem_of_getElem? (i := 82) rfl))
theorem b83 : (Jvm.Cond.instanceMethod ({ cls := "DigitChip$Registers", name := "<init>", desc := "()V" } : Jvm.MethodName)) ∈ lw_tbl := zT_tb (List.mem_append_left (tables_1_2 ++ (tables_1_3 ++ tables_1_4)) (List.mem_of_getElem? (i := 83) rfl))
theorem q83 : (Jvm.Cond.instanceMethod ({ cls := "DigitChip$Registers", name := "<init>", desc := "()V" } : Jvm.MethodName)) ∈ zT := zT_in b83 rfl
theorem b84 : (Jvm.Cond.code ({ cls := "DigitChip$Registers", name := "<init>", desc := "()V" } : Jvm.MethodName) prog_4_method_1_code (1 : Nat) (Option.none : Option Jvm.ClassFile.FieldType)) ∈ lw_tbl := zT_tb (List.mem_append_left (tables_1_2 ++ (tables_1_3 ++ tables_1_4)) (List.mem_of_getElem? (i := 84) rfl))
theorem q84 : (Jvm.Cond.code ({ cls := "DigitChip$Registers", name := "<init>", desc := "()V" } : Jvm.MethodName) prog_4_method_1_code (1 : Nat) (Option.none : Option Jvm.ClassFile.FieldType)) ∈ zT := zT_in b84 rfl
theorem b85 : (Jvm.Cond.methodLink "DigitChip$Registers" (3 : Nat) ({ cls := "java/lang/Object", name := "<init>", desc := "()V" } : Jvm.MethodName)) ∈ lw_tbl := zT_tb (List.mem_append_left (tables_1_2 ++ (tables_1_3 ++ tables_1_4)) (List.mem_of_getElem? (i := 85) rfl))
theorem q85 : (Jvm.Cond.methodLink "DigitChip$Registers" (3 : Nat) ({ cls := "java/lang/Object", name := "<init>", desc := "()V" } : Jvm.MethodName)) ∈ zT := zT_in b85 rfl
theorem b86 : (Jvm.Cond.fieldLink "DigitChip$Registers" (9 : Nat) "DigitChip$Registers" "numbers" "[J") ∈ lw_tbl := zT_tb (List.mem_append_left (tables_1_2 ++ (tables_1_3 ++ tables_1_4)) (List.mem_of_getElem? (i := 86) rfl))
theorem q86 : (Jvm.Cond.fieldLink "DigitChip$Registers" (9 : Nat) "DigitChip$Registers" "numbers" "[J") ∈ zT := zT_in b86 rfl
theorem b87 : (Jvm.Cond.fieldLink "DigitChip" (76 : Nat) "DigitChip$Registers" "numbers" "[J") ∈ lw_tbl := zT_tb (List.mem_append_left (tables_1_2 ++ (tables_1_3 ++ tables_1_4)) (List.mem_of_getElem? (i := 87) rfl))
theorem q87 : (Jvm.Cond.fieldLink "DigitChip" (76 : Nat) "DigitChip$Registers" "numbers" "[J") ∈ zT := zT_in b87 rfl
theorem b88 : (Jvm.Cond.fieldLink "DigitChip$Processor" (103 : Nat) "DigitChip$Registers" "numbers" "[J") ∈ lw_tbl := zT_tb (List.mem_append_left (tables_1_2 ++ (tables_1_3 ++ tables_1_4)) (List.mem_of_getElem? (i := 88) rfl))
theorem q88 : (Jvm.Cond.fieldLink "DigitChip$Processor" (103 : Nat) "DigitChip$Registers" "numbers" "[J") ∈ zT := zT_in b88 rfl
theorem b89 : (Jvm.Cond.fieldLink "DigitChip$Registers" (15 : Nat) "DigitChip$Registers" "unit" "J") ∈ lw_tbl := zT_tb (List.mem_append_left (tables_1_2 ++ (tables_1_3 ++ tables_1_4)) (List.mem_of_getElem? (i := 89) rfl))
theorem q89 : (Jvm.Cond.fieldLink "DigitChip$Registers" (15 : Nat) "DigitChip$Registers" "unit" "J") ∈ zT := zT_in b89 rfl
theorem b90 : (Jvm.Cond.fieldLink "DigitChip$Registers" (19 : Nat) "DigitChip$Registers" "limit" "J") ∈ lw_tbl := zT_tb (List.mem_append_left (tables_1_2 ++ (tables_1_3 ++ tables_1_4)) (List.mem_of_getElem? (i := 90) rfl))
theorem q90 : (Jvm.Cond.fieldLink "DigitChip$Registers" (19 : Nat) "DigitChip$Registers" "limit" "J") ∈ zT := zT_in b90 rfl
theorem b91 : (Jvm.Cond.fieldLink "DigitChip$Processor" (116 : Nat) "DigitChip$Registers" "limit" "J") ∈ lw_tbl := zT_tb (List.mem_append_left (tables_1_2 ++ (tables_1_3 ++ tables_1_4)) (List.mem_of_getElem? (i := 91) rfl))
theorem q91 : (Jvm.Cond.fieldLink "DigitChip$Processor" (116 : Nat) "DigitChip$Registers" "limit" "J") ∈ zT := zT_in b91 rfl
theorem b92 : (Jvm.Cond.laysFinal "DigitChip$Registers" "DigitChip$Registers" "numbers" "[J") ∈ lw_tbl := zT_tb (List.mem_append_left (tables_1_2 ++ (tables_1_3 ++ tables_1_4)) (List.mem_of_getElem? (i := 92) rfl))
theorem q92 : (Jvm.Cond.laysFinal "DigitChip$Registers" "DigitChip$Registers" "numbers" "[J") ∈ zT := zT_in b92 rfl
theorem b93 : (Jvm.Cond.soleField "DigitChip$Registers" "numbers") ∈ lw_tbl := zT_tb (List.mem_append_left (tables_1_2 ++ (tables_1_3 ++ tables_1_4)) (List.mem_of_getElem? (i := 93) rfl))
theorem b94 : (Jvm.Cond.lays "DigitChip$Registers" "DigitChip$Registers" "unit" "J") ∈ lw_tbl := zT_tb (List.mem_append_left (tables_1_2 ++ (tables_1_3 ++ tables_1_4)) (List.mem_of_getElem? (i := 94) rfl))
theorem q94 : (Jvm.Cond.lays "DigitChip$Registers" "DigitChip$Registers" "unit" "J") ∈ zT := zT_in b94 rfl
theorem b95 : (Jvm.Cond.soleField "DigitChip$Registers" "unit") ∈ lw_tbl := zT_tb (List.mem_append_left (tables_1_2 ++ (tables_1_3 ++ tables_1_4)) (List.mem_of_getElem? (i := 95) rfl))
theorem b96 : (Jvm.Cond.lays "DigitChip$Registers" "DigitChip$Registers" "limit" "J") ∈ lw_tbl := zT_tb (List.mem_append_left (tables_1_2 ++ (tables_1_3 ++ tables_1_4)) (List.mem_of_getElem? (i := 96) rfl))
theorem q96 : (Jvm.Cond.lays "DigitChip$Registers" "DigitChip$Registers" "limit" "J") ∈ zT := zT_in b96 rfl
theorem b97 : (Jvm.Cond.soleField "DigitChip$Registers" "limit") ∈ lw_tbl := zT_tb (List.mem_append_left (tables_1_2 ++ (tables_1_3 ++ tables_1_4)) (List.mem_of_getElem? (i := 97) rfl))
theorem b98 : (Jvm.Cond.superclass "DigitChip$Registers" "java/lang/Object") ∈ lw_tbl := zT_tb (List.mem_append_left (tables_1_2 ++ (tables_1_3 ++ tables_1_4)) (List.mem_of_getElem? (i := 98) rfl))
theorem b99 : (Jvm.Cond.arrayClass Jvm.ClassFile.FieldType.long) ∈ lw_tbl := zT_tb (List.mem_append_left (tables_1_2 ++ (tables_1_3 ++ tables_1_4)) (List.mem_of_getElem? (i := 99) rfl))
theorem q99 : (Jvm.Cond.arrayClass Jvm.ClassFile.FieldType.long) ∈ zT := zT_in b99 rfl
theorem b100 : (Jvm.Cond.classLink "DigitChip$Processor" (22 : Nat) "DigitChip$Waiting") ∈ lw_tbl := zT_tb (List.mem_append_left (tables_1_2 ++ (tables_1_3 ++ tables_1_4)) (List.mem_of_getElem? (i := 100) rfl))
theorem q100 : (Jvm.Cond.classLink "DigitChip$Processor" (22 : Nat) "DigitChip$Waiting") ∈ zT := zT_in b100 rfl
theorem b101 : (Jvm.Cond.instantiable "DigitChip$Waiting" (2 : Nat)) ∈ lw_tbl := zT_tb (List.mem_append_left (tables_1_2 ++ (tables_1_3 ++ tables_1_4)) (List.mem_of_getElem? (i := 101) rfl))
theorem q101 : (Jvm.Cond.instantiable "DigitChip$Waiting" (2 : Nat)) ∈ zT := zT_in b101 rfl
theorem b102 : (Jvm.Cond.methodLinkNest "DigitChip$Processor" (24 : Nat) ({ cls := "DigitChip$Waiting", name := "<init>", desc := "()V" } : Jvm.MethodName) "DigitChip") ∈ lw_tbl := zT_tb (List.mem_append_left (tables_1_2 ++ (tables_1_3 ++ tables_1_4)) (List.mem_of_getElem? (i := 102) rfl))
theorem b103 : (Jvm.Cond.instanceMethod ({ cls := "DigitChip$Waiting", name := "<init>", desc := "()V" } : Jvm.MethodName)) ∈ lw_tbl := zT_tb (List.mem_append_left (tables_1_2 ++ (tables_1_3 ++ tables_1_4)) (List.mem_of_getElem? (i := 103) rfl))
theorem q103 : (Jvm.Cond.instanceMethod ({ cls := "DigitChip$Waiting", name := "<init>", desc := "()V" } : Jvm.MethodName)) ∈ zT := zT_in b103 rfl
theorem b104 : (Jvm.Cond.code ({ cls := "DigitChip$Waiting", name := "<init>", desc := "()V" } : Jvm.MethodName) prog_5_method_1_code (1 : Nat) (Option.none : Option Jvm.ClassFile.FieldType)) ∈ lw_tbl := zT_tb (List.mem_append_left (tables_1_2 ++ (tables_1_3 ++ tables_1_4)) (List.mem_of_getElem? (i := 104) rfl))
theorem q104 : (Jvm.Cond.code ({ cls := "DigitChip$Waiting", name := "<init>", desc := "()V" } : Jvm.MethodName) prog_5_method_1_code (1 : Nat) (Option.none : Option Jvm.ClassFile.FieldType)) ∈ zT := zT_in b104 rfl
theorem b105 : (Jvm.Cond.methodLink "DigitChip$Waiting" (3 : Nat) ({ cls := "java/lang/Object", name := "<init>", desc := "()V" } : Jvm.MethodName)) ∈ lw_tbl := zT_tb (List.mem_append_left (tables_1_2 ++ (tables_1_3 ++ tables_1_4)) (List.mem_of_getElem? (i := 105) rfl))
theorem q105 : (Jvm.Cond.methodLink "DigitChip$Waiting" (3 : Nat) ({ cls := "java/lang/Object", name := "<init>", desc := "()V" } : Jvm.MethodName)) ∈ zT := zT_in b105 rfl
theorem b106 : (Jvm.Cond.fieldLink "DigitChip$Waiting" (11 : Nat) "DigitChip$Waiting" "row" "[I") ∈ lw_tbl := zT_tb (List.mem_append_left (tables_1_2 ++ (tables_1_3 ++ tables_1_4)) (List.mem_of_getElem? (i := 106) rfl))
theorem q106 : (Jvm.Cond.fieldLink "DigitChip$Waiting" (11 : Nat) "DigitChip$Waiting" "row" "[I") ∈ zT := zT_in b106 rfl
theorem b107 : (Jvm.Cond.fieldLink "DigitChip$Waiting" (15 : Nat) "DigitChip$Waiting" "count" "I") ∈ lw_tbl := zT_tb (List.mem_append_left (tables_1_2 ++ (tables_1_3 ++ tables_1_4)) (List.mem_of_getElem? (i := 107) rfl))
theorem q107 : (Jvm.Cond.fieldLink "DigitChip$Waiting" (15 : Nat) "DigitChip$Waiting" "count" "I") ∈ zT := zT_in b107 rfl
theorem b108 : (Jvm.Cond.fieldLink "DigitChip" (64 : Nat) "DigitChip$Waiting" "count" "I") ∈ lw_tbl := zT_tb (List.mem_append_left (tables_1_2 ++ (tables_1_3 ++ tables_1_4)) (List.mem_of_getElem? (i := 108) rfl))
theorem q108 : (Jvm.Cond.fieldLink "DigitChip" (64 : Nat) "DigitChip$Waiting" "count" "I") ∈ zT := zT_in b108 rfl
theorem b109 : (Jvm.Cond.laysFinal "DigitChip$Waiting" "DigitChip$Waiting" "row" "[I") ∈ lw_tbl := zT_tb (List.mem_append_left (tables_1_2 ++ (tables_1_3 ++ tables_1_4)) (List.mem_of_getElem? (i := 109) rfl))
theorem q109 : (Jvm.Cond.laysFinal "DigitChip$Waiting" "DigitChip$Waiting" "row" "[I") ∈ zT := zT_in b109 rfl
theorem b110 : (Jvm.Cond.soleField "DigitChip$Waiting" "row") ∈ lw_tbl := zT_tb (List.mem_append_left (tables_1_2 ++ (tables_1_3 ++ tables_1_4)) (List.mem_of_getElem? (i := 110) rfl))
theorem b111 : (Jvm.Cond.lays "DigitChip$Waiting" "DigitChip$Waiting" "count" "I") ∈ lw_tbl := zT_tb (List.mem_append_left (tables_1_2 ++ (tables_1_3 ++ tables_1_4)) (List.mem_of_getElem? (i := 111) rfl))
theorem q111 : (Jvm.Cond.lays "DigitChip$Waiting" "DigitChip$Waiting" "count" "I") ∈ zT := zT_in b111 rfl
theorem b112 : (Jvm.Cond.soleField "DigitChip$Waiting" "count") ∈ lw_tbl := zT_tb (List.mem_append_left (tables_1_2 ++ (tables_1_3 ++ tables_1_4)) (List.mem_of_getElem? (i := 112) rfl))
theorem b113 : (Jvm.Cond.superclass "DigitChip$Waiting" "java/lang/Object") ∈ lw_tbl := zT_tb (List.mem_append_left (tables_1_2 ++ (tables_1_3 ++ tables_1_4)) (List.mem_of_getElem? (i := 113) rfl))
theorem b114 : (Jvm.Cond.fieldLink "DigitChip$Processor" (9 : Nat) "DigitChip$Processor" "memory" "[I") ∈ lw_tbl := zT_tb (List.mem_append_left (tables_1_2 ++ (tables_1_3 ++ tables_1_4)) (List.mem_of_getElem? (i := 114) rfl))
theorem q114 : (Jvm.Cond.fieldLink "DigitChip$Processor" (9 : Nat) "DigitChip$Processor" "memory" "[I") ∈ zT := zT_in b114 rfl
theorem b115 : (Jvm.Cond.fieldLink "DigitChip" (53 : Nat) "DigitChip$Processor" "memory" "[I") ∈ lw_tbl := zT_tb (List.mem_append_left (tables_1_2 ++ (tables_1_3 ++ tables_1_4)) (List.mem_of_getElem? (i := 115) rfl))
theorem q115 : (Jvm.Cond.fieldLink "DigitChip" (53 : Nat) "DigitChip$Processor" "memory" "[I") ∈ zT := zT_in b115 rfl
theorem b116 : (Jvm.Cond.fieldLink "DigitChip$Processor" (18 : Nat) "DigitChip$Processor" "registers" "LDigitChip$Registers;") ∈ lw_tbl := zT_tb (List.mem_append_left (tables_1_2 ++ (tables_1_3 ++ tables_1_4)) (List.mem_of_getElem? (i := 116) rfl))
theorem q116 : (Jvm.Cond.fieldLink "DigitChip$Processor" (18 : Nat) "DigitChip$Processor" "registers" "LDigitChip$Registers;") ∈ zT := zT_in b116 rfl
theorem b117 : (Jvm.Cond.fieldLink "DigitChip" (72 : Nat) "DigitChip$Processor" "registers" "LDigitChip$Registers;") ∈ lw_tbl := zT_tb (List.mem_append_left (tables_1_2 ++ (tables_1_3 ++ tables_1_4)) (List.mem_of_getElem? (i := 117) rfl))
theorem q117 : (Jvm.Cond.fieldLink "DigitChip" (72 : Nat) "DigitChip$Processor" "registers" "LDigitChip$Registers;") ∈ zT := zT_in b117 rfl
theorem b118 : (Jvm.Cond.fieldLink "DigitChip$Processor" (25 : Nat) "DigitChip$Processor" "waiting" "LDigitChip$Waiting;") ∈ lw_tbl := zT_tb (List.mem_append_left (tables_1_2 ++ (tables_1_3 ++ tables_1_4)) (List.mem_of_getElem? (i := 118) rfl))
theorem q118 : (Jvm.Cond.fieldLink "DigitChip$Processor" (25 : Nat) "DigitChip$Processor" "waiting" "LDigitChip$Waiting;") ∈ zT := zT_in b118 rfl
theorem b119 : (Jvm.Cond.fieldLink "DigitChip" (56 : Nat) "DigitChip$Processor" "waiting" "LDigitChip$Waiting;") ∈ lw_tbl := zT_tb (List.mem_append_left (tables_1_2 ++ (tables_1_3 ++ tables_1_4)) (List.mem_of_getElem? (i := 119) rfl))
theorem q119 : (Jvm.Cond.fieldLink "DigitChip" (56 : Nat) "DigitChip$Processor" "waiting" "LDigitChip$Waiting;") ∈ zT := zT_in b119 rfl
theorem b120 : (Jvm.Cond.fieldLink "DigitChip$Processor" (29 : Nat) "DigitChip$Processor" "pointer" "I") ∈ lw_tbl := zT_tb (List.mem_append_left (tables_1_2 ++ (tables_1_3 ++ tables_1_4)) (List.mem_of_getElem? (i := 120) rfl))
theorem q120 : (Jvm.Cond.fieldLink "DigitChip$Processor" (29 : Nat) "DigitChip$Processor" "pointer" "I") ∈ zT := zT_in b120 rfl
theorem b121 : (Jvm.Cond.fieldLink "DigitChip" (87 : Nat) "DigitChip$Processor" "pointer" "I") ∈ lw_tbl := zT_tb (List.mem_append_left (tables_1_2 ++ (tables_1_3 ++ tables_1_4)) (List.mem_of_getElem? (i := 121) rfl))
theorem q121 : (Jvm.Cond.fieldLink "DigitChip" (87 : Nat) "DigitChip$Processor" "pointer" "I") ∈ zT := zT_in b121 rfl
theorem b122 : (Jvm.Cond.fieldLink "DigitChip$Processor" (33 : Nat) "DigitChip$Processor" "status" "I") ∈ lw_tbl := zT_tb (List.mem_append_left (tables_1_2 ++ (tables_1_3 ++ tables_1_4)) (List.mem_of_getElem? (i := 122) rfl))
theorem q122 : (Jvm.Cond.fieldLink "DigitChip$Processor" (33 : Nat) "DigitChip$Processor" "status" "I") ∈ zT := zT_in b122 rfl
theorem b123 : (Jvm.Cond.fieldLink "DigitChip" (90 : Nat) "DigitChip$Processor" "status" "I") ∈ lw_tbl := zT_tb (List.mem_append_left (tables_1_2 ++ (tables_1_3 ++ tables_1_4)) (List.mem_of_getElem? (i := 123) rfl))
theorem q123 : (Jvm.Cond.fieldLink "DigitChip" (90 : Nat) "DigitChip$Processor" "status" "I") ∈ zT := zT_in b123 rfl
theorem b124 : (Jvm.Cond.fieldLink "DigitChip$Processor" (36 : Nat) "DigitChip$Processor" "carry" "Z") ∈ lw_tbl := zT_tb (List.mem_append_left (tables_1_2 ++ (tables_1_3 ++ tables_1_4)) (List.mem_of_getElem? (i := 124) rfl))
theorem q124 : (Jvm.Cond.fieldLink "DigitChip$Processor" (36 : Nat) "DigitChip$Processor" "carry" "Z") ∈ zT := zT_in b124 rfl
theorem b125 : (Jvm.Cond.fieldLink "DigitChip" (93 : Nat) "DigitChip$Processor" "carry" "Z") ∈ lw_tbl := zT_tb (List.mem_append_left (tables_1_2 ++ (tables_1_3 ++ tables_1_4)) (List.mem_of_getElem? (i := 125) rfl))
theorem q125 : (Jvm.Cond.fieldLink "DigitChip" (93 : Nat) "DigitChip$Processor" "carry" "Z") ∈ zT := zT_in b125 rfl
theorem b126 : (Jvm.Cond.fieldLink "DigitChip$Processor" (40 : Nat) "DigitChip$Processor" "place" "I") ∈ lw_tbl := zT_tb (List.mem_append_left (tables_1_2 ++ (tables_1_3 ++ tables_1_4)) (List.mem_of_getElem? (i := 126) rfl))
theorem q126 : (Jvm.Cond.fieldLink "DigitChip$Processor" (40 : Nat) "DigitChip$Processor" "place" "I") ∈ zT := zT_in b126 rfl
theorem b127 : (Jvm.Cond.fieldLink "DigitChip" (97 : Nat) "DigitChip$Processor" "place" "I") ∈ lw_tbl := zT_tb (List.mem_append_left (tables_1_2 ++ (tables_1_3 ++ tables_1_4)) (List.mem_of_getElem? (i := 127) rfl))
theorem q127 : (Jvm.Cond.fieldLink "DigitChip" (97 : Nat) "DigitChip$Processor" "place" "I") ∈ zT := zT_in b127 rfl
theorem b128 : (Jvm.Cond.fieldLink "DigitChip$Processor" (43 : Nat) "DigitChip$Processor" "back" "I") ∈ lw_tbl := zT_tb (List.mem_append_left (tables_1_2 ++ (tables_1_3 ++ tables_1_4)) (List.mem_of_getElem? (i := 128) rfl))
theorem q128 : (Jvm.Cond.fieldLink "DigitChip$Processor" (43 : Nat) "DigitChip$Processor" "back" "I") ∈ zT := zT_in b128 rfl
theorem b129 : (Jvm.Cond.fieldLink "DigitChip" (100 : Nat) "DigitChip$Processor" "back" "I") ∈ lw_tbl := zT_tb (List.mem_append_left (tables_1_2 ++ (tables_1_3 ++ tables_1_4)) (List.mem_of_getElem? (i := 129) rfl))
theorem q129 : (Jvm.Cond.fieldLink "DigitChip" (100 : Nat) "DigitChip$Processor" "back" "I") ∈ zT := zT_in b129 rfl
theorem b130 : (Jvm.Cond.fieldLink "DigitChip$Processor" (46 : Nat) "DigitChip$Processor" "ended" "Z") ∈ lw_tbl := zT_tb (List.mem_append_left (tables_1_2 ++ (tables_1_3 ++ tables_1_4)) (List.mem_of_getElem? (i := 130) rfl))
theorem q130 : (Jvm.Cond.fieldLink "DigitChip$Processor" (46 : Nat) "DigitChip$Processor" "ended" "Z") ∈ zT := zT_in b130 rfl
theorem b131 : (Jvm.Cond.laysFinal "DigitChip$Processor" "DigitChip$Processor" "memory" "[I") ∈ lw_tbl := zT_tb (List.mem_append_left (tables_1_2 ++ (tables_1_3 ++ tables_1_4)) (List.mem_of_getElem? (i := 131) rfl))
theorem q131 : (Jvm.Cond.laysFinal "DigitChip$Processor" "DigitChip$Processor" "memory" "[I") ∈ zT := zT_in b131 rfl
theorem b132 : (Jvm.Cond.soleField "DigitChip$Processor" "memory") ∈ lw_tbl := zT_tb (List.mem_append_left (tables_1_2 ++ (tables_1_3 ++ tables_1_4)) (List.mem_of_getElem? (i := 132) rfl))
theorem b133 : (Jvm.Cond.laysFinal "DigitChip$Processor" "DigitChip$Processor" "registers" "LDigitChip$Registers;") ∈ lw_tbl := zT_tb (List.mem_append_left (tables_1_2 ++ (tables_1_3 ++ tables_1_4)) (List.mem_of_getElem? (i := 133) rfl))
theorem q133 : (Jvm.Cond.laysFinal "DigitChip$Processor" "DigitChip$Processor" "registers" "LDigitChip$Registers;") ∈ zT := zT_in b133 rfl
theorem b134 : (Jvm.Cond.soleField "DigitChip$Processor" "registers") ∈ lw_tbl := zT_tb (List.mem_append_left (tables_1_2 ++ (tables_1_3 ++ tables_1_4)) (List.mem_of_getElem? (i := 134) rfl))
theorem b135 : (Jvm.Cond.laysFinal "DigitChip$Processor" "DigitChip$Processor" "waiting" "LDigitChip$Waiting;") ∈ lw_tbl := zT_tb (List.mem_append_left (tables_1_2 ++ (tables_1_3 ++ tables_1_4)) (List.mem_of_getElem? (i := 135) rfl))
theorem q135 : (Jvm.Cond.laysFinal "DigitChip$Processor" "DigitChip$Processor" "waiting" "LDigitChip$Waiting;") ∈ zT := zT_in b135 rfl
theorem b136 : (Jvm.Cond.soleField "DigitChip$Processor" "waiting") ∈ lw_tbl := zT_tb (List.mem_append_left (tables_1_2 ++ (tables_1_3 ++ tables_1_4)) (List.mem_of_getElem? (i := 136) rfl))
theorem b137 : (Jvm.Cond.lays "DigitChip$Processor" "DigitChip$Processor" "pointer" "I") ∈ lw_tbl := zT_tb (List.mem_append_left (tables_1_2 ++ (tables_1_3 ++ tables_1_4)) (List.mem_of_getElem? (i := 137) rfl))
theorem q137 : (Jvm.Cond.lays "DigitChip$Processor" "DigitChip$Processor" "pointer" "I") ∈ zT := zT_in b137 rfl
theorem b138 : (Jvm.Cond.soleField "DigitChip$Processor" "pointer") ∈ lw_tbl := zT_tb (List.mem_append_left (tables_1_2 ++ (tables_1_3 ++ tables_1_4)) (List.mem_of_getElem? (i := 138) rfl))
theorem b139 : (Jvm.Cond.lays "DigitChip$Processor" "DigitChip$Processor" "status" "I") ∈ lw_tbl := zT_tb (List.mem_append_left (tables_1_2 ++ (tables_1_3 ++ tables_1_4)) (List.mem_of_getElem? (i := 139) rfl))
theorem q139 : (Jvm.Cond.lays "DigitChip$Processor" "DigitChip$Processor" "status" "I") ∈ zT := zT_in b139 rfl
theorem b140 : (Jvm.Cond.soleField "DigitChip$Processor" "status") ∈ lw_tbl := zT_tb (List.mem_append_left (tables_1_2 ++ (tables_1_3 ++ tables_1_4)) (List.mem_of_getElem? (i := 140) rfl))
theorem b141 : (Jvm.Cond.lays "DigitChip$Processor" "DigitChip$Processor" "carry" "Z") ∈ lw_tbl := zT_tb (List.mem_append_left (tables_1_2 ++ (tables_1_3 ++ tables_1_4)) (List.mem_of_getElem? (i := 141) rfl))
theorem q141 : (Jvm.Cond.lays "DigitChip$Processor" "DigitChip$Processor" "carry" "Z") ∈ zT := zT_in b141 rfl
theorem b142 : (Jvm.Cond.soleField "DigitChip$Processor" "carry") ∈ lw_tbl := zT_tb (List.mem_append_left (tables_1_2 ++ (tables_1_3 ++ tables_1_4)) (List.mem_of_getElem? (i := 142) rfl))
theorem b143 : (Jvm.Cond.lays "DigitChip$Processor" "DigitChip$Processor" "place" "I") ∈ lw_tbl := zT_tb (List.mem_append_left (tables_1_2 ++ (tables_1_3 ++ tables_1_4)) (List.mem_of_getElem? (i := 143) rfl))
theorem q143 : (Jvm.Cond.lays "DigitChip$Processor" "DigitChip$Processor" "place" "I") ∈ zT := zT_in b143 rfl
theorem b144 : (Jvm.Cond.soleField "DigitChip$Processor" "place") ∈ lw_tbl := zT_tb (List.mem_append_left (tables_1_2 ++ (tables_1_3 ++ tables_1_4)) (List.mem_of_getElem? (i := 144) rfl))
theorem b145 : (Jvm.Cond.lays "DigitChip$Processor" "DigitChip$Processor" "back" "I") ∈ lw_tbl := zT_tb (List.mem_append_left (tables_1_2 ++ (tables_1_3 ++ tables_1_4)) (List.mem_of_getElem? (i := 145) rfl))
theorem q145 : (Jvm.Cond.lays "DigitChip$Processor" "DigitChip$Processor" "back" "I") ∈ zT := zT_in b145 rfl
theorem b146 : (Jvm.Cond.soleField "DigitChip$Processor" "back") ∈ lw_tbl := zT_tb (List.mem_append_left (tables_1_2 ++ (tables_1_3 ++ tables_1_4)) (List.mem_of_getElem? (i := 146) rfl))
theorem b147 : (Jvm.Cond.lays "DigitChip$Processor" "DigitChip$Processor" "ended" "Z") ∈ lw_tbl := zT_tb (List.mem_append_left (tables_1_2 ++ (tables_1_3 ++ tables_1_4)) (List.mem_of_getElem? (i := 147) rfl))
theorem q147 : (Jvm.Cond.lays "DigitChip$Processor" "DigitChip$Processor" "ended" "Z") ∈ zT := zT_in b147 rfl
theorem b148 : (Jvm.Cond.soleField "DigitChip$Processor" "ended") ∈ lw_tbl := zT_tb (List.mem_append_left (tables_1_2 ++ (tables_1_3 ++ tables_1_4)) (List.mem_of_getElem? (i := 148) rfl))
theorem b149 : (Jvm.Cond.superclass "DigitChip$Processor" "java/lang/Object") ∈ lw_tbl := zT_tb (List.mem_append_left (tables_1_2 ++ (tables_1_3 ++ tables_1_4)) (List.mem_of_getElem? (i := 149) rfl))
theorem b150 : (Jvm.Cond.fieldLink "DigitChip" (10 : Nat) "DigitChip" "assembler" "LDigitChip$Assembler;") ∈ lw_tbl := zT_tb (List.mem_append_left (tables_1_2 ++ (tables_1_3 ++ tables_1_4)) (List.mem_of_getElem? (i := 150) rfl))
theorem q150 : (Jvm.Cond.fieldLink "DigitChip" (10 : Nat) "DigitChip" "assembler" "LDigitChip$Assembler;") ∈ zT := zT_in b150 rfl
theorem b151 : (Jvm.Cond.fieldLink "DigitChip" (19 : Nat) "DigitChip" "processor" "LDigitChip$Processor;") ∈ lw_tbl := zT_tb (List.mem_append_left (tables_1_2 ++ (tables_1_3 ++ tables_1_4)) (List.mem_of_getElem? (i := 151) rfl))
theorem q151 : (Jvm.Cond.fieldLink "DigitChip" (19 : Nat) "DigitChip" "processor" "LDigitChip$Processor;") ∈ zT := zT_in b151 rfl
theorem b152 : (Jvm.Cond.laysFinal "DigitChip" "DigitChip" "assembler" "LDigitChip$Assembler;") ∈ lw_tbl := zT_tb (List.mem_append_left (tables_1_2 ++ (tables_1_3 ++ tables_1_4)) (List.mem_of_getElem? (i := 152) rfl))
theorem q152 : (Jvm.Cond.laysFinal "DigitChip" "DigitChip" "assembler" "LDigitChip$Assembler;") ∈ zT := zT_in b152 rfl
theorem b153 : (Jvm.Cond.soleField "DigitChip" "assembler") ∈ lw_tbl := zT_tb (List.mem_append_left (tables_1_2 ++ (tables_1_3 ++ tables_1_4)) (List.mem_of_getElem? (i := 153) rfl))
theorem b154 : (Jvm.Cond.laysFinal "DigitChip" "DigitChip" "processor" "LDigitChip$Processor;") ∈ lw_tbl := zT_tb (List.mem_append_left (tables_1_2 ++ (tables_1_3 ++ tables_1_4)) (List.mem_of_getElem? (i := 154) rfl))
theorem q154 : (Jvm.Cond.laysFinal "DigitChip" "DigitChip" "processor" "LDigitChip$Processor;") ∈ zT := zT_in b154 rfl
theorem b155 : (Jvm.Cond.soleField "DigitChip" "processor") ∈ lw_tbl := zT_tb (List.mem_append_left (tables_1_2 ++ (tables_1_3 ++ tables_1_4)) (List.mem_of_getElem? (i := 155) rfl))
theorem b156 : (Jvm.Cond.superclass "DigitChip" "java/lang/Object") ∈ lw_tbl := zT_tb (List.mem_append_left (tables_1_2 ++ (tables_1_3 ++ tables_1_4)) (List.mem_of_getElem? (i := 156) rfl))
theorem b157 : (Jvm.Cond.methodLink "DigitChipLaw" (23 : Nat) ({ cls := "DigitChip", name := "type", desc := "(C)Z" } : Jvm.MethodName)) ∈ lw_tbl := zT_tb (List.mem_append_left (tables_1_2 ++ (tables_1_3 ++ tables_1_4)) (List.mem_of_getElem? (i := 157) rfl))
theorem q157 : (Jvm.Cond.methodLink "DigitChipLaw" (23 : Nat) ({ cls := "DigitChip", name := "type", desc := "(C)Z" } : Jvm.MethodName)) ∈ zT := zT_in b157 rfl
theorem b158 : (Jvm.Cond.instanceMethod ({ cls := "DigitChip", name := "type", desc := "(C)Z" } : Jvm.MethodName)) ∈ lw_tbl := zT_tb (List.mem_append_left (tables_1_2 ++ (tables_1_3 ++ tables_1_4)) (List.mem_of_getElem? (i := 158) rfl))
theorem q158 : (Jvm.Cond.instanceMethod ({ cls := "DigitChip", name := "type", desc := "(C)Z" } : Jvm.MethodName)) ∈ zT := zT_in b158 rfl
theorem b159 : (Jvm.Cond.selects "DigitChip" ({ cls := "DigitChip", name := "type", desc := "(C)Z" } : Jvm.MethodName) ({ cls := "DigitChip", name := "type", desc := "(C)Z" } : Jvm.MethodName)) ∈ lw_tbl := zT_tb (List.mem_append_left (tables_1_2 ++ (tables_1_3 ++ tables_1_4)) (List.mem_of_getElem? (i := 159) rfl))
theorem q159 : (Jvm.Cond.selects "DigitChip" ({ cls := "DigitChip", name := "type", desc := "(C)Z" } : Jvm.MethodName) ({ cls := "DigitChip", name := "type", desc := "(C)Z" } : Jvm.MethodName)) ∈ zT := zT_in b159 rfl
theorem b160 : (Jvm.Cond.code ({ cls := "DigitChip", name := "type", desc := "(C)Z" } : Jvm.MethodName) prog_1_method_2_code (2 : Nat) (Option.some Jvm.ClassFile.FieldType.boolean)) ∈ lw_tbl := zT_tb (List.mem_append_left (tables_1_2 ++ (tables_1_3 ++ tables_1_4)) (List.mem_of_getElem? (i := 160) rfl))
theorem q160 : (Jvm.Cond.code ({ cls := "DigitChip", name := "type", desc := "(C)Z" } : Jvm.MethodName) prog_1_method_2_code (2 : Nat) (Option.some Jvm.ClassFile.FieldType.boolean)) ∈ zT := zT_in b160 rfl
theorem b161 : (Jvm.Cond.methodLink "DigitChip" (23 : Nat) ({ cls := "DigitChip$Assembler", name := "append", desc := "(C)Z" } : Jvm.MethodName)) ∈ lw_tbl := zT_tb (List.mem_append_left (tables_1_2 ++ (tables_1_3 ++ tables_1_4)) (List.mem_of_getElem? (i := 161) rfl))
theorem q161 : (Jvm.Cond.methodLink "DigitChip" (23 : Nat) ({ cls := "DigitChip$Assembler", name := "append", desc := "(C)Z" } : Jvm.MethodName)) ∈ zT := zT_in b161 rfl
theorem b162 : (Jvm.Cond.instanceMethod ({ cls := "DigitChip$Assembler", name := "append", desc := "(C)Z" } : Jvm.MethodName)) ∈ lw_tbl := zT_tb (List.mem_append_left (tables_1_2 ++ (tables_1_3 ++ tables_1_4)) (List.mem_of_getElem? (i := 162) rfl))
theorem q162 : (Jvm.Cond.instanceMethod ({ cls := "DigitChip$Assembler", name := "append", desc := "(C)Z" } : Jvm.MethodName)) ∈ zT := zT_in b162 rfl
theorem b163 : (Jvm.Cond.selects "DigitChip$Assembler" ({ cls := "DigitChip$Assembler", name := "append", desc := "(C)Z" } : Jvm.MethodName) ({ cls := "DigitChip$Assembler", name := "append", desc := "(C)Z" } : Jvm.MethodName)) ∈ lw_tbl := zT_tb (List.mem_append_left (tables_1_2 ++ (tables_1_3 ++ tables_1_4)) (List.mem_of_getElem? (i := 163) rfl))
theorem q163 : (Jvm.Cond.selects "DigitChip$Assembler" ({ cls := "DigitChip$Assembler", name := "append", desc := "(C)Z" } : Jvm.MethodName) ({ cls := "DigitChip$Assembler", name := "append", desc := "(C)Z" } : Jvm.MethodName)) ∈ zT := zT_in b163 rfl
theorem b164 : (Jvm.Cond.code ({ cls := "DigitChip$Assembler", name := "append", desc := "(C)Z" } : Jvm.MethodName) prog_2_method_2_code (2 : Nat) (Option.some Jvm.ClassFile.FieldType.boolean)) ∈ lw_tbl := zT_tb (List.mem_append_left (tables_1_2 ++ (tables_1_3 ++ tables_1_4)) (List.mem_of_getElem? (i := 164) rfl))
theorem q164 : (Jvm.Cond.code ({ cls := "DigitChip$Assembler", name := "append", desc := "(C)Z" } : Jvm.MethodName) prog_2_method_2_code (2 : Nat) (Option.some Jvm.ClassFile.FieldType.boolean)) ∈ zT := zT_in b164 rfl
theorem b165 : (Jvm.Cond.methodLink "DigitChipLaw" (37 : Nat) ({ cls := "DigitChip", name := "illAt", desc := "()I" } : Jvm.MethodName)) ∈ lw_tbl := zT_tb (List.mem_append_left (tables_1_2 ++ (tables_1_3 ++ tables_1_4)) (List.mem_of_getElem? (i := 165) rfl))
theorem q165 : (Jvm.Cond.methodLink "DigitChipLaw" (37 : Nat) ({ cls := "DigitChip", name := "illAt", desc := "()I" } : Jvm.MethodName)) ∈ zT := zT_in b165 rfl
theorem b166 : (Jvm.Cond.instanceMethod ({ cls := "DigitChip", name := "illAt", desc := "()I" } : Jvm.MethodName)) ∈ lw_tbl := zT_tb (List.mem_append_left (tables_1_2 ++ (tables_1_3 ++ tables_1_4)) (List.mem_of_getElem? (i := 166) rfl))
theorem q166 : (Jvm.Cond.instanceMethod ({ cls := "DigitChip", name := "illAt", desc := "()I" } : Jvm.MethodName)) ∈ zT := zT_in b166 rfl
theorem b167 : (Jvm.Cond.selects "DigitChip" ({ cls := "DigitChip", name := "illAt", desc := "()I" } : Jvm.MethodName) ({ cls := "DigitChip", name := "illAt", desc := "()I" } : Jvm.MethodName)) ∈ lw_tbl := zT_tb (List.mem_append_left (tables_1_2 ++ (tables_1_3 ++ tables_1_4)) (List.mem_of_getElem? (i := 167) rfl))
theorem q167 : (Jvm.Cond.selects "DigitChip" ({ cls := "DigitChip", name := "illAt", desc := "()I" } : Jvm.MethodName) ({ cls := "DigitChip", name := "illAt", desc := "()I" } : Jvm.MethodName)) ∈ zT := zT_in b167 rfl
theorem b168 : (Jvm.Cond.code ({ cls := "DigitChip", name := "illAt", desc := "()I" } : Jvm.MethodName) prog_1_method_4_code (1 : Nat) (Option.some Jvm.ClassFile.FieldType.int)) ∈ lw_tbl := zT_tb (List.mem_append_left (tables_1_2 ++ (tables_1_3 ++ tables_1_4)) (List.mem_of_getElem? (i := 168) rfl))
theorem q168 : (Jvm.Cond.code ({ cls := "DigitChip", name := "illAt", desc := "()I" } : Jvm.MethodName) prog_1_method_4_code (1 : Nat) (Option.some Jvm.ClassFile.FieldType.int)) ∈ zT := zT_in b168 rfl
theorem b169 : (Jvm.Cond.methodLink "DigitChipLaw" (41 : Nat) ({ cls := "DigitChip", name := "word", desc := "(I)I" } : Jvm.MethodName)) ∈ lw_tbl := zT_tb (List.mem_append_left (tables_1_2 ++ (tables_1_3 ++ tables_1_4)) (List.mem_of_getElem? (i := 169) rfl))
theorem q169 : (Jvm.Cond.methodLink "DigitChipLaw" (41 : Nat) ({ cls := "DigitChip", name := "word", desc := "(I)I" } : Jvm.MethodName)) ∈ zT := zT_in b169 rfl
theorem b170 : (Jvm.Cond.instanceMethod ({ cls := "DigitChip", name := "word", desc := "(I)I" } : Jvm.MethodName)) ∈ lw_tbl := zT_tb (List.mem_append_left (tables_1_2 ++ (tables_1_3 ++ tables_1_4)) (List.mem_of_getElem? (i := 170) rfl))
theorem q170 : (Jvm.Cond.instanceMethod ({ cls := "DigitChip", name := "word", desc := "(I)I" } : Jvm.MethodName)) ∈ zT := zT_in b170 rfl
theorem b171 : (Jvm.Cond.selects "DigitChip" ({ cls := "DigitChip", name := "word", desc := "(I)I" } : Jvm.MethodName) ({ cls := "DigitChip", name := "word", desc := "(I)I" } : Jvm.MethodName)) ∈ lw_tbl := zT_tb (List.mem_append_left (tables_1_2 ++ (tables_1_3 ++ tables_1_4)) (List.mem_of_getElem? (i := 171) rfl))
theorem q171 : (Jvm.Cond.selects "DigitChip" ({ cls := "DigitChip", name := "word", desc := "(I)I" } : Jvm.MethodName) ({ cls := "DigitChip", name := "word", desc := "(I)I" } : Jvm.MethodName)) ∈ zT := zT_in b171 rfl
theorem b172 : (Jvm.Cond.code ({ cls := "DigitChip", name := "word", desc := "(I)I" } : Jvm.MethodName) prog_1_method_5_code (2 : Nat) (Option.some Jvm.ClassFile.FieldType.int)) ∈ lw_tbl := zT_tb (List.mem_append_left (tables_1_2 ++ (tables_1_3 ++ tables_1_4)) (List.mem_of_getElem? (i := 172) rfl))
theorem q172 : (Jvm.Cond.code ({ cls := "DigitChip", name := "word", desc := "(I)I" } : Jvm.MethodName) prog_1_method_5_code (2 : Nat) (Option.some Jvm.ClassFile.FieldType.int)) ∈ zT := zT_in b172 rfl
theorem b173 : (Jvm.Cond.methodLink "DigitChip" (49 : Nat) ({ cls := "DigitChip", name := "isPlace", desc := "(I)Z" } : Jvm.MethodName)) ∈ lw_tbl := zT_tb (List.mem_append_left (tables_1_2 ++ (tables_1_3 ++ tables_1_4)) (List.mem_of_getElem? (i := 173) rfl))
theorem q173 : (Jvm.Cond.methodLink "DigitChip" (49 : Nat) ({ cls := "DigitChip", name := "isPlace", desc := "(I)Z" } : Jvm.MethodName)) ∈ zT := zT_in b173 rfl
theorem b174 : (Jvm.Cond.static ({ cls := "DigitChip", name := "isPlace", desc := "(I)Z" } : Jvm.MethodName)) ∈ lw_tbl := zT_tb (List.mem_append_left (tables_1_2 ++ (tables_1_3 ++ tables_1_4)) (List.mem_of_getElem? (i := 174) rfl))
theorem q174 : (Jvm.Cond.static ({ cls := "DigitChip", name := "isPlace", desc := "(I)Z" } : Jvm.MethodName)) ∈ zT := zT_in b174 rfl
theorem b175 : (Jvm.Cond.code ({ cls := "DigitChip", name := "isPlace", desc := "(I)Z" } : Jvm.MethodName) prog_1_method_15_code (1 : Nat) (Option.some Jvm.ClassFile.FieldType.boolean)) ∈ lw_tbl := zT_tb (List.mem_append_left (tables_1_2 ++ (tables_1_3 ++ tables_1_4)) (List.mem_of_getElem? (i := 175) rfl))
theorem q175 : (Jvm.Cond.code ({ cls := "DigitChip", name := "isPlace", desc := "(I)Z" } : Jvm.MethodName) prog_1_method_15_code (1 : Nat) (Option.some Jvm.ClassFile.FieldType.boolean)) ∈ zT := zT_in b175 rfl
theorem b176 : (Jvm.Cond.methodLink "DigitChipLaw" (45 : Nat) ({ cls := "DigitChip", name := "poke", desc := "(II)Z" } : Jvm.MethodName)) ∈ lw_tbl := zT_tb (List.mem_append_left (tables_1_2 ++ (tables_1_3 ++ tables_1_4)) (List.mem_of_getElem? (i := 176) rfl))
theorem q176 : (Jvm.Cond.methodLink "DigitChipLaw" (45 : Nat) ({ cls := "DigitChip", name := "poke", desc := "(II)Z" } : Jvm.MethodName)) ∈ zT := zT_in b176 rfl
theorem b177 : (Jvm.Cond.instanceMethod ({ cls := "DigitChip", name := "poke", desc := "(II)Z" } : Jvm.MethodName)) ∈ lw_tbl := zT_tb (List.mem_append_left (tables_1_2 ++ (tables_1_3 ++ tables_1_4)) (List.mem_of_getElem? (i := 177) rfl))
theorem q177 : (Jvm.Cond.instanceMethod ({ cls := "DigitChip", name := "poke", desc := "(II)Z" } : Jvm.MethodName)) ∈ zT := zT_in b177 rfl
theorem b178 : (Jvm.Cond.selects "DigitChip" ({ cls := "DigitChip", name := "poke", desc := "(II)Z" } : Jvm.MethodName) ({ cls := "DigitChip", name := "poke", desc := "(II)Z" } : Jvm.MethodName)) ∈ lw_tbl := zT_tb (List.mem_append_left (tables_1_2 ++ (tables_1_3 ++ tables_1_4)) (List.mem_of_getElem? (i := 178) rfl))
theorem q178 : (Jvm.Cond.selects "DigitChip" ({ cls := "DigitChip", name := "poke", desc := "(II)Z" } : Jvm.MethodName) ({ cls := "DigitChip", name := "poke", desc := "(II)Z" } : Jvm.MethodName)) ∈ zT := zT_in b178 rfl
theorem b179 : (Jvm.Cond.code ({ cls := "DigitChip", name := "poke", desc := "(II)Z" } : Jvm.MethodName) prog_1_method_6_code (3 : Nat) (Option.some Jvm.ClassFile.FieldType.boolean)) ∈ lw_tbl := zT_tb (List.mem_append_left (tables_1_2 ++ (tables_1_3 ++ tables_1_4)) (List.mem_of_getElem? (i := 179) rfl))
theorem q179 : (Jvm.Cond.code ({ cls := "DigitChip", name := "poke", desc := "(II)Z" } : Jvm.MethodName) prog_1_method_6_code (3 : Nat) (Option.some Jvm.ClassFile.FieldType.boolean)) ∈ zT := zT_in b179 rfl
theorem b180 : (Jvm.Cond.methodLink "DigitChipLaw" (50 : Nat) ({ cls := "DigitChip", name := "key", desc := "(I)Z" } : Jvm.MethodName)) ∈ lw_tbl := zT_tb (List.mem_append_left (tables_1_2 ++ (tables_1_3 ++ tables_1_4)) (List.mem_of_getElem? (i := 180) rfl))
theorem q180 : (Jvm.Cond.methodLink "DigitChipLaw" (50 : Nat) ({ cls := "DigitChip", name := "key", desc := "(I)Z" } : Jvm.MethodName)) ∈ zT := zT_in b180 rfl
theorem b181 : (Jvm.Cond.instanceMethod ({ cls := "DigitChip", name := "key", desc := "(I)Z" } : Jvm.MethodName)) ∈ lw_tbl := zT_tb (List.mem_append_left (tables_1_2 ++ (tables_1_3 ++ tables_1_4)) (List.mem_of_getElem? (i := 181) rfl))
theorem q181 : (Jvm.Cond.instanceMethod ({ cls := "DigitChip", name := "key", desc := "(I)Z" } : Jvm.MethodName)) ∈ zT := zT_in b181 rfl
theorem b182 : (Jvm.Cond.selects "DigitChip" ({ cls := "DigitChip", name := "key", desc := "(I)Z" } : Jvm.MethodName) ({ cls := "DigitChip", name := "key", desc := "(I)Z" } : Jvm.MethodName)) ∈ lw_tbl := zT_tb (List.mem_append_left (tables_1_2 ++ (tables_1_3 ++ tables_1_4)) (List.mem_of_getElem? (i := 182) rfl))
theorem q182 : (Jvm.Cond.selects "DigitChip" ({ cls := "DigitChip", name := "key", desc := "(I)Z" } : Jvm.MethodName) ({ cls := "DigitChip", name := "key", desc := "(I)Z" } : Jvm.MethodName)) ∈ zT := zT_in b182 rfl
theorem b183 : (Jvm.Cond.code ({ cls := "DigitChip", name := "key", desc := "(I)Z" } : Jvm.MethodName) prog_1_method_7_code (2 : Nat) (Option.some Jvm.ClassFile.FieldType.boolean)) ∈ lw_tbl := zT_tb (List.mem_append_left (tables_1_2 ++ (tables_1_3 ++ tables_1_4)) (List.mem_of_getElem? (i := 183) rfl))
theorem q183 : (Jvm.Cond.code ({ cls := "DigitChip", name := "key", desc := "(I)Z" } : Jvm.MethodName) prog_1_method_7_code (2 : Nat) (Option.some Jvm.ClassFile.FieldType.boolean)) ∈ zT := zT_in b183 rfl
theorem b184 : (Jvm.Cond.methodLink "DigitChip" (60 : Nat) ({ cls := "DigitChip$Waiting", name := "append", desc := "(I)Z" } : Jvm.MethodName)) ∈ lw_tbl := zT_tb (List.mem_append_left (tables_1_2 ++ (tables_1_3 ++ tables_1_4)) (List.mem_of_getElem? (i := 184) rfl))
theorem q184 : (Jvm.Cond.methodLink "DigitChip" (60 : Nat) ({ cls := "DigitChip$Waiting", name := "append", desc := "(I)Z" } : Jvm.MethodName)) ∈ zT := zT_in b184 rfl
theorem b185 : (Jvm.Cond.instanceMethod ({ cls := "DigitChip$Waiting", name := "append", desc := "(I)Z" } : Jvm.MethodName)) ∈ lw_tbl := zT_tb (List.mem_append_left (tables_1_2 ++ (tables_1_3 ++ tables_1_4)) (List.mem_of_getElem? (i := 185) rfl))
theorem q185 : (Jvm.Cond.instanceMethod ({ cls := "DigitChip$Waiting", name := "append", desc := "(I)Z" } : Jvm.MethodName)) ∈ zT := zT_in b185 rfl
theorem b186 : (Jvm.Cond.selects "DigitChip$Waiting" ({ cls := "DigitChip$Waiting", name := "append", desc := "(I)Z" } : Jvm.MethodName) ({ cls := "DigitChip$Waiting", name := "append", desc := "(I)Z" } : Jvm.MethodName)) ∈ lw_tbl := zT_tb (List.mem_append_left (tables_1_2 ++ (tables_1_3 ++ tables_1_4)) (List.mem_of_getElem? (i := 186) rfl))
theorem q186 : (Jvm.Cond.selects "DigitChip$Waiting" ({ cls := "DigitChip$Waiting", name := "append", desc := "(I)Z" } : Jvm.MethodName) ({ cls := "DigitChip$Waiting", name := "append", desc := "(I)Z" } : Jvm.MethodName)) ∈ zT := zT_in b186 rfl
theorem b187 : (Jvm.Cond.code ({ cls := "DigitChip$Waiting", name := "append", desc := "(I)Z" } : Jvm.MethodName) prog_5_method_2_code (2 : Nat) (Option.some Jvm.ClassFile.FieldType.boolean)) ∈ lw_tbl := zT_tb (List.mem_append_left (tables_1_2 ++ (tables_1_3 ++ tables_1_4)) (List.mem_of_getElem? (i := 187) rfl))
theorem q187 : (Jvm.Cond.code ({ cls := "DigitChip$Waiting", name := "append", desc := "(I)Z" } : Jvm.MethodName) prog_5_method_2_code (2 : Nat) (Option.some Jvm.ClassFile.FieldType.boolean)) ∈ zT := zT_in b187 rfl
theorem b188 : (Jvm.Cond.methodLink "DigitChipLaw" (55 : Nat) ({ cls := "DigitChip", name := "keys", desc := "()I" } : Jvm.MethodName)) ∈ lw_tbl := zT_tb (List.mem_append_left (tables_1_2 ++ (tables_1_3 ++ tables_1_4)) (List.mem_of_getElem? (i := 188) rfl))
theorem q188 : (Jvm.Cond.methodLink "DigitChipLaw" (55 : Nat) ({ cls := "DigitChip", name := "keys", desc := "()I" } : Jvm.MethodName)) ∈ zT := zT_in b188 rfl
theorem b189 : (Jvm.Cond.instanceMethod ({ cls := "DigitChip", name := "keys", desc := "()I" } : Jvm.MethodName)) ∈ lw_tbl := zT_tb (List.mem_append_left (tables_1_2 ++ (tables_1_3 ++ tables_1_4)) (List.mem_of_getElem? (i := 189) rfl))
theorem q189 : (Jvm.Cond.instanceMethod ({ cls := "DigitChip", name := "keys", desc := "()I" } : Jvm.MethodName)) ∈ zT := zT_in b189 rfl
theorem b190 : (Jvm.Cond.selects "DigitChip" ({ cls := "DigitChip", name := "keys", desc := "()I" } : Jvm.MethodName) ({ cls := "DigitChip", name := "keys", desc := "()I" } : Jvm.MethodName)) ∈ lw_tbl := zT_tb (List.mem_append_left (tables_1_2 ++ (tables_1_3 ++ tables_1_4)) (List.mem_of_getElem? (i := 190) rfl))
theorem q190 : (Jvm.Cond.selects "DigitChip" ({ cls := "DigitChip", name := "keys", desc := "()I" } : Jvm.MethodName) ({ cls := "DigitChip", name := "keys", desc := "()I" } : Jvm.MethodName)) ∈ zT := zT_in b190 rfl
theorem b191 : (Jvm.Cond.code ({ cls := "DigitChip", name := "keys", desc := "()I" } : Jvm.MethodName) prog_1_method_8_code (1 : Nat) (Option.some Jvm.ClassFile.FieldType.int)) ∈ lw_tbl := zT_tb (List.mem_append_left (tables_1_2 ++ (tables_1_3 ++ tables_1_4)) (List.mem_of_getElem? (i := 191) rfl))
theorem q191 : (Jvm.Cond.code ({ cls := "DigitChip", name := "keys", desc := "()I" } : Jvm.MethodName) prog_1_method_8_code (1 : Nat) (Option.some Jvm.ClassFile.FieldType.int)) ∈ zT := zT_in b191 rfl
theorem b192 : (Jvm.Cond.methodLink "DigitChipLaw" (63 : Nat) ({ cls := "DigitChip", name := "value", desc := "(I)J" } : Jvm.MethodName)) ∈ lw_tbl := zT_tb (List.mem_append_left (tables_1_2 ++ (tables_1_3 ++ tables_1_4)) (List.mem_of_getElem? (i := 192) rfl))
theorem q192 : (Jvm.Cond.methodLink "DigitChipLaw" (63 : Nat) ({ cls := "DigitChip", name := "value", desc := "(I)J" } : Jvm.MethodName)) ∈ zT := zT_in b192 rfl
theorem b193 : (Jvm.Cond.instanceMethod ({ cls := "DigitChip", name := "value", desc := "(I)J" } : Jvm.MethodName)) ∈ lw_tbl := zT_tb (List.mem_append_left (tables_1_2 ++ (tables_1_3 ++ tables_1_4)) (List.mem_of_getElem? (i := 193) rfl))
theorem q193 : (Jvm.Cond.instanceMethod ({ cls := "DigitChip", name := "value", desc := "(I)J" } : Jvm.MethodName)) ∈ zT := zT_in b193 rfl
theorem b194 : (Jvm.Cond.selects "DigitChip" ({ cls := "DigitChip", name := "value", desc := "(I)J" } : Jvm.MethodName) ({ cls := "DigitChip", name := "value", desc := "(I)J" } : Jvm.MethodName)) ∈ lw_tbl := zT_tb (List.mem_append_left (tables_1_2 ++ (tables_1_3 ++ tables_1_4)) (List.mem_of_getElem? (i := 194) rfl))
theorem q194 : (Jvm.Cond.selects "DigitChip" ({ cls := "DigitChip", name := "value", desc := "(I)J" } : Jvm.MethodName) ({ cls := "DigitChip", name := "value", desc := "(I)J" } : Jvm.MethodName)) ∈ zT := zT_in b194 rfl
theorem b195 : (Jvm.Cond.code ({ cls := "DigitChip", name := "value", desc := "(I)J" } : Jvm.MethodName) prog_1_method_10_code (2 : Nat) (Option.some Jvm.ClassFile.FieldType.long)) ∈ lw_tbl := zT_tb (List.mem_append_left (tables_1_2 ++ (tables_1_3 ++ tables_1_4)) (List.mem_of_getElem? (i := 195) rfl))
theorem q195 : (Jvm.Cond.code ({ cls := "DigitChip", name := "value", desc := "(I)J" } : Jvm.MethodName) prog_1_method_10_code (2 : Nat) (Option.some Jvm.ClassFile.FieldType.long)) ∈ zT := zT_in b195 rfl
theorem b196 : (Jvm.Cond.methodLink "DigitChip" (69 : Nat) ({ cls := "DigitChip", name := "isRegister", desc := "(I)Z" } : Jvm.MethodName)) ∈ lw_tbl := zT_tb (List.mem_append_left (tables_1_2 ++ (tables_1_3 ++ tables_1_4)) (List.mem_of_getElem? (i := 196) rfl))
theorem q196 : (Jvm.Cond.methodLink "DigitChip" (69 : Nat) ({ cls := "DigitChip", name := "isRegister", desc := "(I)Z" } : Jvm.MethodName)) ∈ zT := zT_in b196 rfl
theorem b197 : (Jvm.Cond.static ({ cls := "DigitChip", name := "isRegister", desc := "(I)Z" } : Jvm.MethodName)) ∈ lw_tbl := zT_tb (List.mem_append_left (tables_1_2 ++ (tables_1_3 ++ tables_1_4)) (List.mem_of_getElem? (i := 197) rfl))
theorem q197 : (Jvm.Cond.static ({ cls := "DigitChip", name := "isRegister", desc := "(I)Z" } : Jvm.MethodName)) ∈ zT := zT_in b197 rfl
theorem b198 : (Jvm.Cond.code ({ cls := "DigitChip", name := "isRegister", desc := "(I)Z" } : Jvm.MethodName) prog_1_method_16_code (1 : Nat) (Option.some Jvm.ClassFile.FieldType.boolean)) ∈ lw_tbl := zT_tb (List.mem_append_left (tables_1_2 ++ (tables_1_3 ++ tables_1_4)) (List.mem_of_getElem? (i := 198) rfl))
theorem q198 : (Jvm.Cond.code ({ cls := "DigitChip", name := "isRegister", desc := "(I)Z" } : Jvm.MethodName) prog_1_method_16_code (1 : Nat) (Option.some Jvm.ClassFile.FieldType.boolean)) ∈ zT := zT_in b198 rfl
theorem b199 : (Jvm.Cond.constantLong "DigitChip" (82 : Nat) (-1 : Int64)) ∈ lw_tbl := zT_tb (List.mem_append_left (tables_1_2 ++ (tables_1_3 ++ tables_1_4)) (List.mem_of_getElem? (i := 199) rfl))
theorem q199 : (Jvm.Cond.constantLong "DigitChip" (82 : Nat) (-1 : Int64)) ∈ zT := zT_in b199 rfl
theorem b200 : (Jvm.Cond.methodLink "DigitChipLaw" (70 : Nat) ({ cls := "DigitChip", name := "set", desc := "(IJ)Z" } : Jvm.MethodName)) ∈ lw_tbl := zT_tb (List.mem_append_left (tables_1_2 ++ (tables_1_3 ++ tables_1_4)) (List.mem_of_getElem? (i := 200) rfl))
theorem q200 : (Jvm.Cond.methodLink "DigitChipLaw" (70 : Nat) ({ cls := "DigitChip", name := "set", desc := "(IJ)Z" } : Jvm.MethodName)) ∈ zT := zT_in b200 rfl
theorem b201 : (Jvm.Cond.instanceMethod ({ cls := "DigitChip", name := "set", desc := "(IJ)Z" } : Jvm.MethodName)) ∈ lw_tbl := zT_tb (List.mem_append_left (tables_1_2 ++ (tables_1_3 ++ tables_1_4)) (List.mem_of_getElem? (i := 201) rfl))
theorem q201 : (Jvm.Cond.instanceMethod ({ cls := "DigitChip", name := "set", desc := "(IJ)Z" } : Jvm.MethodName)) ∈ zT := zT_in b201 rfl
theorem b202 : (Jvm.Cond.selects "DigitChip" ({ cls := "DigitChip", name := "set", desc := "(IJ)Z" } : Jvm.MethodName) ({ cls := "DigitChip", name := "set", desc := "(IJ)Z" } : Jvm.MethodName)) ∈ lw_tbl := zT_tb (List.mem_append_left (tables_1_2 ++ (tables_1_3 ++ tables_1_4)) (List.mem_of_getElem? (i := 202) rfl))
theorem q202 : (Jvm.Cond.selects "DigitChip" ({ cls := "DigitChip", name := "set", desc := "(IJ)Z" } : Jvm.MethodName) ({ cls := "DigitChip", name := "set", desc := "(IJ)Z" } : Jvm.MethodName)) ∈ zT := zT_in b202 rfl
theorem b203 : (Jvm.Cond.code ({ cls := "DigitChip", name := "set", desc := "(IJ)Z" } : Jvm.MethodName) prog_1_method_11_code (4 : Nat) (Option.some Jvm.ClassFile.FieldType.boolean)) ∈ lw_tbl := zT_tb (List.mem_append_left (tables_1_2 ++ (tables_1_3 ++ tables_1_4)) (List.mem_of_getElem? (i := 203) rfl))
theorem q203 : (Jvm.Cond.code ({ cls := "DigitChip", name := "set", desc := "(IJ)Z" } : Jvm.MethodName) prog_1_method_11_code (4 : Nat) (Option.some Jvm.ClassFile.FieldType.boolean)) ∈ zT := zT_in b203 rfl
theorem b204 : (Jvm.Cond.fieldLink "DigitChip" (84 : Nat) "DigitChip$Registers" "TENS" "[J") ∈ lw_tbl := zT_tb (List.mem_append_left (tables_1_2 ++ (tables_1_3 ++ tables_1_4)) (List.mem_of_getElem? (i := 204) rfl))
theorem q204 : (Jvm.Cond.fieldLink "DigitChip" (84 : Nat) "DigitChip$Registers" "TENS" "[J") ∈ zT := zT_in b204 rfl
theorem b205 : (Jvm.Cond.laysStatic "DigitChip$Registers" "TENS" "[J") ∈ lw_tbl := zT_tb (List.mem_append_left (tables_1_2 ++ (tables_1_3 ++ tables_1_4)) (List.mem_of_getElem? (i := 205) rfl))
theorem b206 : (Jvm.Cond.methodLink "DigitChipLaw" (75 : Nat) ({ cls := "DigitChip", name := "state", desc := "(I)I" } : Jvm.MethodName)) ∈ lw_tbl := zT_tb (List.mem_append_left (tables_1_2 ++ (tables_1_3 ++ tables_1_4)) (List.mem_of_getElem? (i := 206) rfl))
theorem q206 : (Jvm.Cond.methodLink "DigitChipLaw" (75 : Nat) ({ cls := "DigitChip", name := "state", desc := "(I)I" } : Jvm.MethodName)) ∈ zT := zT_in b206 rfl
theorem b207 : (Jvm.Cond.instanceMethod ({ cls := "DigitChip", name := "state", desc := "(I)I" } : Jvm.MethodName)) ∈ lw_tbl := zT_tb (List.mem_append_left (tables_1_2 ++ (tables_1_3 ++ tables_1_4)) (List.mem_of_getElem? (i := 207) rfl))
theorem q207 : (Jvm.Cond.instanceMethod ({ cls := "DigitChip", name := "state", desc := "(I)I" } : Jvm.MethodName)) ∈ zT := zT_in b207 rfl
theorem b208 : (Jvm.Cond.selects "DigitChip" ({ cls := "DigitChip", name := "state", desc := "(I)I" } : Jvm.MethodName) ({ cls := "DigitChip", name := "state", desc := "(I)I" } : Jvm.MethodName)) ∈ lw_tbl := zT_tb (List.mem_append_left (tables_1_2 ++ (tables_1_3 ++ tables_1_4)) (List.mem_of_getElem? (i := 208) rfl))
theorem q208 : (Jvm.Cond.selects "DigitChip" ({ cls := "DigitChip", name := "state", desc := "(I)I" } : Jvm.MethodName) ({ cls := "DigitChip", name := "state", desc := "(I)I" } : Jvm.MethodName)) ∈ zT := zT_in b208 rfl
theorem b209 : (Jvm.Cond.code ({ cls := "DigitChip", name := "state", desc := "(I)I" } : Jvm.MethodName) prog_1_method_12_code (2 : Nat) (Option.some Jvm.ClassFile.FieldType.int)) ∈ lw_tbl := zT_tb (List.mem_append_left (tables_1_2 ++ (tables_1_3 ++ tables_1_4)) (List.mem_of_getElem? (i := 209) rfl))
theorem q209 : (Jvm.Cond.code ({ cls := "DigitChip", name := "state", desc := "(I)I" } : Jvm.MethodName) prog_1_method_12_code (2 : Nat) (Option.some Jvm.ClassFile.FieldType.int)) ∈ zT := zT_in b209 rfl
theorem b210 : (Jvm.Cond.methodLink "DigitChipLaw" (79 : Nat) ({ cls := "DigitChip", name := "go", desc := "(I)Z" } : Jvm.MethodName)) ∈ lw_tbl := zT_tb (List.mem_append_left (tables_1_2 ++ (tables_1_3 ++ tables_1_4)) (List.mem_of_getElem? (i := 210) rfl))
theorem q210 : (Jvm.Cond.methodLink "DigitChipLaw" (79 : Nat) ({ cls := "DigitChip", name := "go", desc := "(I)Z" } : Jvm.MethodName)) ∈ zT := zT_in b210 rfl
theorem b211 : (Jvm.Cond.instanceMethod ({ cls := "DigitChip", name := "go", desc := "(I)Z" } : Jvm.MethodName)) ∈ lw_tbl := zT_tb (List.mem_append_left (tables_1_2 ++ (tables_1_3 ++ tables_1_4)) (List.mem_of_getElem? (i := 211) rfl))
theorem q211 : (Jvm.Cond.instanceMethod ({ cls := "DigitChip", name := "go", desc := "(I)Z" } : Jvm.MethodName)) ∈ zT := zT_in b211 rfl
theorem b212 : (Jvm.Cond.selects "DigitChip" ({ cls := "DigitChip", name := "go", desc := "(I)Z" } : Jvm.MethodName) ({ cls := "DigitChip", name := "go", desc := "(I)Z" } : Jvm.MethodName)) ∈ lw_tbl := zT_tb (List.mem_append_left (tables_1_2 ++ (tables_1_3 ++ tables_1_4)) (List.mem_of_getElem? (i := 212) rfl))
theorem q212 : (Jvm.Cond.selects "DigitChip" ({ cls := "DigitChip", name := "go", desc := "(I)Z" } : Jvm.MethodName) ({ cls := "DigitChip", name := "go", desc := "(I)Z" } : Jvm.MethodName)) ∈ zT := zT_in b212 rfl
theorem b213 : (Jvm.Cond.code ({ cls := "DigitChip", name := "go", desc := "(I)Z" } : Jvm.MethodName) prog_1_method_13_code (2 : Nat) (Option.some Jvm.ClassFile.FieldType.boolean)) ∈ lw_tbl := zT_tb (List.mem_append_left (tables_1_2 ++ (tables_1_3 ++ tables_1_4)) (List.mem_of_getElem? (i := 213) rfl))
theorem q213 : (Jvm.Cond.code ({ cls := "DigitChip", name := "go", desc := "(I)Z" } : Jvm.MethodName) prog_1_method_13_code (2 : Nat) (Option.some Jvm.ClassFile.FieldType.boolean)) ∈ zT := zT_in b213 rfl
theorem b214 : (Jvm.Cond.methodLink "DigitChipLaw" (83 : Nat) ({ cls := "DigitChip", name := "display", desc := "(I)I" } : Jvm.MethodName)) ∈ lw_tbl := zT_tb (List.mem_append_left (tables_1_2 ++ (tables_1_3 ++ tables_1_4)) (List.mem_of_getElem? (i := 214) rfl))
theorem q214 : (Jvm.Cond.methodLink "DigitChipLaw" (83 : Nat) ({ cls := "DigitChip", name := "display", desc := "(I)I" } : Jvm.MethodName)) ∈ zT := zT_in b214 rfl
theorem b215 : (Jvm.Cond.instanceMethod ({ cls := "DigitChip", name := "display", desc := "(I)I" } : Jvm.MethodName)) ∈ lw_tbl := zT_tb (List.mem_append_left (tables_1_2 ++ (tables_1_3 ++ tables_1_4)) (List.mem_of_getElem? (i := 215) rfl))
theorem q215 : (Jvm.Cond.instanceMethod ({ cls := "DigitChip", name := "display", desc := "(I)I" } : Jvm.MethodName)) ∈ zT := zT_in b215 rfl
theorem b216 : (Jvm.Cond.selects "DigitChip" ({ cls := "DigitChip", name := "display", desc := "(I)I" } : Jvm.MethodName) ({ cls := "DigitChip", name := "display", desc := "(I)I" } : Jvm.MethodName)) ∈ lw_tbl := zT_tb (List.mem_append_left (tables_1_2 ++ (tables_1_3 ++ tables_1_4)) (List.mem_of_getElem? (i := 216) rfl))
theorem q216 : (Jvm.Cond.selects "DigitChip" ({ cls := "DigitChip", name := "display", desc := "(I)I" } : Jvm.MethodName) ({ cls := "DigitChip", name := "display", desc := "(I)I" } : Jvm.MethodName)) ∈ zT := zT_in b216 rfl
theorem b217 : (Jvm.Cond.code ({ cls := "DigitChip", name := "display", desc := "(I)I" } : Jvm.MethodName) prog_1_method_14_code (2 : Nat) (Option.some Jvm.ClassFile.FieldType.int)) ∈ lw_tbl := zT_tb (List.mem_append_left (tables_1_2 ++ (tables_1_3 ++ tables_1_4)) (List.mem_of_getElem? (i := 217) rfl))
theorem q217 : (Jvm.Cond.code ({ cls := "DigitChip", name := "display", desc := "(I)I" } : Jvm.MethodName) prog_1_method_14_code (2 : Nat) (Option.some Jvm.ClassFile.FieldType.int)) ∈ zT := zT_in b217 rfl
theorem b218 : (Jvm.Cond.methodLink "DigitChip" (103 : Nat) ({ cls := "DigitChip", name := "digitBeforePoint", desc := "()I" } : Jvm.MethodName)) ∈ lw_tbl := zT_tb (List.mem_append_left (tables_1_2 ++ (tables_1_3 ++ tables_1_4)) (List.mem_of_getElem? (i := 218) rfl))
theorem q218 : (Jvm.Cond.methodLink "DigitChip" (103 : Nat) ({ cls := "DigitChip", name := "digitBeforePoint", desc := "()I" } : Jvm.MethodName)) ∈ zT := zT_in b218 rfl
theorem b219 : (Jvm.Cond.privateMethod ({ cls := "DigitChip", name := "digitBeforePoint", desc := "()I" } : Jvm.MethodName)) ∈ lw_tbl := zT_tb (List.mem_append_left (tables_1_2 ++ (tables_1_3 ++ tables_1_4)) (List.mem_of_getElem? (i := 219) rfl))
theorem b220 : (Jvm.Cond.instanceMethod ({ cls := "DigitChip", name := "digitBeforePoint", desc := "()I" } : Jvm.MethodName)) ∈ lw_tbl := zT_tb (List.mem_append_left (tables_1_2 ++ (tables_1_3 ++ tables_1_4)) (List.mem_of_getElem? (i := 220) rfl))
theorem q220 : (Jvm.Cond.instanceMethod ({ cls := "DigitChip", name := "digitBeforePoint", desc := "()I" } : Jvm.MethodName)) ∈ zT := zT_in b220 rfl
theorem b221 : (Jvm.Cond.code ({ cls := "DigitChip", name := "digitBeforePoint", desc := "()I" } : Jvm.MethodName) prog_1_method_18_code (2 : Nat) (Option.some Jvm.ClassFile.FieldType.int)) ∈ lw_tbl := zT_tb (List.mem_append_left (tables_1_2 ++ (tables_1_3 ++ tables_1_4)) (List.mem_of_getElem? (i := 221) rfl))
theorem q221 : (Jvm.Cond.code ({ cls := "DigitChip", name := "digitBeforePoint", desc := "()I" } : Jvm.MethodName) prog_1_method_18_code (2 : Nat) (Option.some Jvm.ClassFile.FieldType.int)) ∈ zT := zT_in b221 rfl
theorem b222 : (Jvm.Cond.methodLink "DigitChip" (110 : Nat) ({ cls := "DigitChip$Registers", name := "digit", desc := "(II)I" } : Jvm.MethodName)) ∈ lw_tbl := zT_tb (List.mem_append_left (tables_1_2 ++ (tables_1_3 ++ tables_1_4)) (List.mem_of_getElem? (i := 222) rfl))
theorem q222 : (Jvm.Cond.methodLink "DigitChip" (110 : Nat) ({ cls := "DigitChip$Registers", name := "digit", desc := "(II)I" } : Jvm.MethodName)) ∈ zT := zT_in b222 rfl
theorem b223 : (Jvm.Cond.instanceMethod ({ cls := "DigitChip$Registers", name := "digit", desc := "(II)I" } : Jvm.MethodName)) ∈ lw_tbl := zT_tb (List.mem_append_left (tables_1_2 ++ (tables_1_3 ++ tables_1_4)) (List.mem_of_getElem? (i := 223) rfl))
theorem q223 : (Jvm.Cond.instanceMethod ({ cls := "DigitChip$Registers", name := "digit", desc := "(II)I" } : Jvm.MethodName)) ∈ zT := zT_in b223 rfl
theorem b224 : (Jvm.Cond.selects "DigitChip$Registers" ({ cls := "DigitChip$Registers", name := "digit", desc := "(II)I" } : Jvm.MethodName) ({ cls := "DigitChip$Registers", name := "digit", desc := "(II)I" } : Jvm.MethodName)) ∈ lw_tbl := zT_tb (List.mem_append_left (tables_1_2 ++ (tables_1_3 ++ tables_1_4)) (List.mem_of_getElem? (i := 224) rfl))
theorem q224 : (Jvm.Cond.selects "DigitChip$Registers" ({ cls := "DigitChip$Registers", name := "digit", desc := "(II)I" } : Jvm.MethodName) ({ cls := "DigitChip$Registers", name := "digit", desc := "(II)I" } : Jvm.MethodName)) ∈ zT := zT_in b224 rfl
theorem b225 : (Jvm.Cond.code ({ cls := "DigitChip$Registers", name := "digit", desc := "(II)I" } : Jvm.MethodName) prog_4_method_2_code (3 : Nat) (Option.some Jvm.ClassFile.FieldType.int)) ∈ lw_tbl := zT_tb (List.mem_append_left (tables_1_2 ++ (tables_1_3 ++ tables_1_4)) (List.mem_of_getElem? (i := 225) rfl))
theorem q225 : (Jvm.Cond.code ({ cls := "DigitChip$Registers", name := "digit", desc := "(II)I" } : Jvm.MethodName) prog_4_method_2_code (3 : Nat) (Option.some Jvm.ClassFile.FieldType.int)) ∈ zT := zT_in b225 rfl
theorem b226 : (Jvm.Cond.fieldLink "DigitChip$Registers" (22 : Nat) "DigitChip$Registers" "TENS" "[J") ∈ lw_tbl := zT_tb (List.mem_append_left (tables_1_2 ++ (tables_1_3 ++ tables_1_4)) (List.mem_of_getElem? (i := 226) rfl))
theorem q226 : (Jvm.Cond.fieldLink "DigitChip$Registers" (22 : Nat) "DigitChip$Registers" "TENS" "[J") ∈ zT := zT_in b226 rfl
theorem b227 : (Jvm.Cond.constantLong "DigitChip$Registers" (25 : Nat) (10 : Int64)) ∈ lw_tbl := zT_tb (List.mem_append_left (tables_1_2 ++ (tables_1_3 ++ tables_1_4)) (List.mem_of_getElem? (i := 227) rfl))
theorem q227 : (Jvm.Cond.constantLong "DigitChip$Registers" (25 : Nat) (10 : Int64)) ∈ zT := zT_in b227 rfl
theorem b228 : (Jvm.Cond.methodLink "DigitChip" (107 : Nat) ({ cls := "DigitChip", name := "codeOfDigit", desc := "(I)I" } : Jvm.MethodName)) ∈ lw_tbl := zT_tb (List.mem_append_left (tables_1_2 ++ (tables_1_3 ++ tables_1_4)) (List.mem_of_getElem? (i := 228) rfl))
theorem q228 : (Jvm.Cond.methodLink "DigitChip" (107 : Nat) ({ cls := "DigitChip", name := "codeOfDigit", desc := "(I)I" } : Jvm.MethodName)) ∈ zT := zT_in b228 rfl
theorem b229 : (Jvm.Cond.privateMethod ({ cls := "DigitChip", name := "codeOfDigit", desc := "(I)I" } : Jvm.MethodName)) ∈ lw_tbl := zT_tb (List.mem_append_left (tables_1_2 ++ (tables_1_3 ++ tables_1_4)) (List.mem_of_getElem? (i := 229) rfl))
theorem b230 : (Jvm.Cond.instanceMethod ({ cls := "DigitChip", name := "codeOfDigit", desc := "(I)I" } : Jvm.MethodName)) ∈ lw_tbl := zT_tb (List.mem_append_left (tables_1_2 ++ (tables_1_3 ++ tables_1_4)) (List.mem_of_getElem? (i := 230) rfl))
theorem q230 : (Jvm.Cond.instanceMethod ({ cls := "DigitChip", name := "codeOfDigit", desc := "(I)I" } : Jvm.MethodName)) ∈ zT := zT_in b230 rfl
theorem b231 : (Jvm.Cond.code ({ cls := "DigitChip", name := "codeOfDigit", desc := "(I)I" } : Jvm.MethodName) prog_1_method_17_code (3 : Nat) (Option.some Jvm.ClassFile.FieldType.int)) ∈ lw_tbl := zT_tb (List.mem_append_left (tables_1_2 ++ (tables_1_3 ++ tables_1_4)) (List.mem_of_getElem? (i := 231) rfl))
theorem q231 : (Jvm.Cond.code ({ cls := "DigitChip", name := "codeOfDigit", desc := "(I)I" } : Jvm.MethodName) prog_1_method_17_code (3 : Nat) (Option.some Jvm.ClassFile.FieldType.int)) ∈ zT := zT_in b231 rfl
theorem b232 : (Jvm.Cond.methodLink "DigitChipLaw" (28 : Nat) ({ cls := "DigitChipLaw", name := "assemble", desc := "(LDigitChip;[J)I" } : Jvm.MethodName)) ∈ lw_tbl := zT_tb (List.mem_append_left (tables_1_2 ++ (tables_1_3 ++ tables_1_4)) (List.mem_of_getElem? (i := 232) rfl))
theorem q232 : (Jvm.Cond.methodLink "DigitChipLaw" (28 : Nat) ({ cls := "DigitChipLaw", name := "assemble", desc := "(LDigitChip;[J)I" } : Jvm.MethodName)) ∈ zT := zT_in b232 rfl
theorem b233 : (Jvm.Cond.static ({ cls := "DigitChipLaw", name := "assemble", desc := "(LDigitChip;[J)I" } : Jvm.MethodName)) ∈ lw_tbl := zT_tb (List.mem_append_left (tables_1_2 ++ (tables_1_3 ++ tables_1_4)) (List.mem_of_getElem? (i := 233) rfl))
theorem q233 : (Jvm.Cond.static ({ cls := "DigitChipLaw", name := "assemble", desc := "(LDigitChip;[J)I" } : Jvm.MethodName)) ∈ zT := zT_in b233 rfl
theorem b234 : (Jvm.Cond.codeWith ({ cls := "DigitChipLaw", name := "assemble", desc := "(LDigitChip;[J)I" } : Jvm.MethodName) method_3_code (3 : Nat) (Option.some Jvm.ClassFile.FieldType.int) [((0 : Nat), (8 : Nat), (11 : Nat), (13 : Nat))]) ∈ lw_tbl := zT_tb (List.mem_append_left (tables_1_2 ++ (tables_1_3 ++ tables_1_4)) (List.mem_of_getElem? (i := 234) rfl))
theorem q234 : (Jvm.Cond.codeWith ({ cls := "DigitChipLaw", name := "assemble", desc := "(LDigitChip;[J)I" } : Jvm.MethodName) method_3_code (3 : Nat) (Option.some Jvm.ClassFile.FieldType.int) [((0 : Nat), (8 : Nat), (11 : Nat), (13 : Nat))]) ∈ zT := zT_in b234 rfl
theorem b235 : (Jvm.Cond.classLink "DigitChipLaw" (13 : Nat) "java/lang/IllegalArgumentException") ∈ lw_tbl := zT_tb (List.mem_append_left (tables_1_2 ++ (tables_1_3 ++ tables_1_4)) (List.mem_of_getElem? (i := 235) rfl))
theorem q235 : (Jvm.Cond.classLink "DigitChipLaw" (13 : Nat) "java/lang/IllegalArgumentException") ∈ zT := zT_in b235 rfl
theorem b236 : (Jvm.Cond.methodLink "DigitChipLaw" (7 : Nat) ({ cls := "DigitChip", name := "assemble", desc := "()I" } : Jvm.MethodName)) ∈ lw_tbl := zT_tb (List.mem_append_left (tables_1_2 ++ (tables_1_3 ++ tables_1_4)) (List.mem_of_getElem? (i := 236) rfl))
theorem q236 : (Jvm.Cond.methodLink "DigitChipLaw" (7 : Nat) ({ cls := "DigitChip", name := "assemble", desc := "()I" } : Jvm.MethodName)) ∈ zT := zT_in b236 rfl
theorem b237 : (Jvm.Cond.instanceMethod ({ cls := "DigitChip", name := "assemble", desc := "()I" } : Jvm.MethodName)) ∈ lw_tbl := zT_tb (List.mem_append_left (tables_1_2 ++ (tables_1_3 ++ tables_1_4)) (List.mem_of_getElem? (i := 237) rfl))
theorem q237 : (Jvm.Cond.instanceMethod ({ cls := "DigitChip", name := "assemble", desc := "()I" } : Jvm.MethodName)) ∈ zT := zT_in b237 rfl
theorem b238 : (Jvm.Cond.selects "DigitChip" ({ cls := "DigitChip", name := "assemble", desc := "()I" } : Jvm.MethodName) ({ cls := "DigitChip", name := "assemble", desc := "()I" } : Jvm.MethodName)) ∈ lw_tbl := zT_tb (List.mem_append_left (tables_1_2 ++ (tables_1_3 ++ tables_1_4)) (List.mem_of_getElem? (i := 238) rfl))
theorem q238 : (Jvm.Cond.selects "DigitChip" ({ cls := "DigitChip", name := "assemble", desc := "()I" } : Jvm.MethodName) ({ cls := "DigitChip", name := "assemble", desc := "()I" } : Jvm.MethodName)) ∈ zT := zT_in b238 rfl
theorem b239 : (Jvm.Cond.code ({ cls := "DigitChip", name := "assemble", desc := "()I" } : Jvm.MethodName) prog_1_method_3_code (1 : Nat) (Option.some Jvm.ClassFile.FieldType.int)) ∈ lw_tbl := zT_tb (List.mem_append_left (tables_1_2 ++ (tables_1_3 ++ tables_1_4)) (List.mem_of_getElem? (i := 239) rfl))
theorem q239 : (Jvm.Cond.code ({ cls := "DigitChip", name := "assemble", desc := "()I" } : Jvm.MethodName) prog_1_method_3_code (1 : Nat) (Option.some Jvm.ClassFile.FieldType.int)) ∈ zT := zT_in b239 rfl
theorem b240 : (Jvm.Cond.methodLink "DigitChip" (27 : Nat) ({ cls := "DigitChip$Assembler", name := "takeText", desc := "()Z" } : Jvm.MethodName)) ∈ lw_tbl := zT_tb (List.mem_append_right tables_1_1 (List.mem_append_left (tables_1_3 ++ tables_1_4) (List.mem_of_getElem? (i := 0) rfl)))
theorem q240 : (Jvm.Cond.methodLink "DigitChip" (27 : Nat) ({ cls := "DigitChip$Assembler", name := "takeText", desc := "()Z" } : Jvm.MethodName)) ∈ zT := zT_in b240 rfl
theorem b241 : (Jvm.Cond.instanceMethod ({ cls := "DigitChip$Assembler", name := "takeText", desc := "()Z" } : Jvm.MethodName)) ∈ lw_tbl := zT_tb (List.mem_append_right tables_1_1 (List.mem_append_left (tables_1_3 ++ tables_1_4) (List.mem_of_getElem? (i := 1) rfl)))
theorem q241 : (Jvm.Cond.instanceMethod ({ cls := "DigitChip$Assembler", name := "takeText", desc := "()Z" } : Jvm.MethodName)) ∈ zT := zT_in b241 rfl
theorem b242 : (Jvm.Cond.selects "DigitChip$Assembler" ({ cls := "DigitChip$Assembler", name := "takeText", desc := "()Z" } : Jvm.MethodName) ({ cls := "DigitChip$Assembler", name := "takeText", desc := "()Z" } : Jvm.MethodName)) ∈ lw_tbl := zT_tb (List.mem_append_right tables_1_1 (List.mem_append_left (tables_1_3 ++ tables_1_4) (List.mem_of_getElem? (i := 2) rfl)))
theorem q242 : (Jvm.Cond.selects "DigitChip$Assembler" ({ cls := "DigitChip$Assembler", name := "takeText", desc := "()Z" } : Jvm.MethodName) ({ cls := "DigitChip$Assembler", name := "takeText", desc := "()Z" } : Jvm.MethodName)) ∈ zT := zT_in b242 rfl
theorem b243 : (Jvm.Cond.code ({ cls := "DigitChip$Assembler", name := "takeText", desc := "()Z" } : Jvm.MethodName) prog_2_method_3_code (2 : Nat) (Option.some Jvm.ClassFile.FieldType.boolean)) ∈ lw_tbl := zT_tb (List.mem_append_right tables_1_1 (List.mem_append_left (tables_1_3 ++ tables_1_4) (List.mem_of_getElem? (i := 3) rfl)))
theorem q243 : (Jvm.Cond.code ({ cls := "DigitChip$Assembler", name := "takeText", desc := "()Z" } : Jvm.MethodName) prog_2_method_3_code (2 : Nat) (Option.some Jvm.ClassFile.FieldType.boolean)) ∈ zT := zT_in b243 rfl
theorem b244 : (Jvm.Cond.methodLink "DigitChip$Assembler" (45 : Nat) ({ cls := "java/util/Arrays", name := "fill", desc := "([II)V" } : Jvm.MethodName)) ∈ lw_tbl := zT_tb (List.mem_append_right tables_1_1 (List.mem_append_left (tables_1_3 ++ tables_1_4) (List.mem_of_getElem? (i := 4) rfl)))
theorem q244 : (Jvm.Cond.methodLink "DigitChip$Assembler" (45 : Nat) ({ cls := "java/util/Arrays", name := "fill", desc := "([II)V" } : Jvm.MethodName)) ∈ zT := zT_in b244 rfl
theorem b245 : (Jvm.Cond.static ({ cls := "java/util/Arrays", name := "fill", desc := "([II)V" } : Jvm.MethodName)) ∈ lw_tbl := zT_tb (List.mem_append_right tables_1_1 (List.mem_append_left (tables_1_3 ++ tables_1_4) (List.mem_of_getElem? (i := 5) rfl)))
theorem q245 : (Jvm.Cond.static ({ cls := "java/util/Arrays", name := "fill", desc := "([II)V" } : Jvm.MethodName)) ∈ zT := zT_in b245 rfl
theorem b246 : (Jvm.Cond.code ({ cls := "java/util/Arrays", name := "fill", desc := "([II)V" } : Jvm.MethodName) prog_17_method_103_code (4 : Nat) (Option.none : Option Jvm.ClassFile.FieldType)) ∈ lw_tbl := zT_tb (List.mem_append_right tables_1_1 (List.mem_append_left (tables_1_3 ++ tables_1_4) (List.mem_of_getElem? (i := 6) rfl)))
theorem q246 : (Jvm.Cond.code ({ cls := "java/util/Arrays", name := "fill", desc := "([II)V" } : Jvm.MethodName) prog_17_method_103_code (4 : Nat) (Option.none : Option Jvm.ClassFile.FieldType)) ∈ zT := zT_in b246 rfl
theorem b247 : (Jvm.Cond.methodLink "DigitChip$Assembler" (51 : Nat) ({ cls := "DigitChip$Assembler", name := "beginsName", desc := "(I)Z" } : Jvm.MethodName)) ∈ lw_tbl := zT_tb (List.mem_append_right tables_1_1 (List.mem_append_left (tables_1_3 ++ tables_1_4) (List.mem_of_getElem? (i := 7) rfl)))
theorem q247 : (Jvm.Cond.methodLink "DigitChip$Assembler" (51 : Nat) ({ cls := "DigitChip$Assembler", name := "beginsName", desc := "(I)Z" } : Jvm.MethodName)) ∈ zT := zT_in b247 rfl
theorem b248 : (Jvm.Cond.privateMethod ({ cls := "DigitChip$Assembler", name := "beginsName", desc := "(I)Z" } : Jvm.MethodName)) ∈ lw_tbl := zT_tb (List.mem_append_right tables_1_1 (List.mem_append_left (tables_1_3 ++ tables_1_4) (List.mem_of_getElem? (i := 8) rfl)))
theorem b249 : (Jvm.Cond.instanceMethod ({ cls := "DigitChip$Assembler", name := "beginsName", desc := "(I)Z" } : Jvm.MethodName)) ∈ lw_tbl := zT_tb (List.mem_append_right tables_1_1 (List.mem_append_left (tables_1_3 ++ tables_1_4) (List.mem_of_getElem? (i := 9) rfl)))
theorem q249 : (Jvm.Cond.instanceMethod ({ cls := "DigitChip$Assembler", name := "beginsName", desc := "(I)Z" } : Jvm.MethodName)) ∈ zT := zT_in b249 rfl
theorem b250 : (Jvm.Cond.code ({ cls := "DigitChip$Assembler", name := "beginsName", desc := "(I)Z" } : Jvm.MethodName) prog_2_method_4_code (2 : Nat) (Option.some Jvm.ClassFile.FieldType.boolean)) ∈ lw_tbl := zT_tb (List.mem_append_right tables_1_1 (List.mem_append_left (tables_1_3 ++ tables_1_4) (List.mem_of_getElem? (i := 10) rfl)))
theorem q250 : (Jvm.Cond.code ({ cls := "DigitChip$Assembler", name := "beginsName", desc := "(I)Z" } : Jvm.MethodName) prog_2_method_4_code (2 : Nat) (Option.some Jvm.ClassFile.FieldType.boolean)) ∈ zT := zT_in b250 rfl
theorem b251 : (Jvm.Cond.methodLink "DigitChip$Assembler" (55 : Nat) ({ cls := "DigitChip$Assembler", name := "endOfName", desc := "(I)I" } : Jvm.MethodName)) ∈ lw_tbl := zT_tb (List.mem_append_right tables_1_1 (List.mem_append_left (tables_1_3 ++ tables_1_4) (List.mem_of_getElem? (i := 11) rfl)))
theorem q251 : (Jvm.Cond.methodLink "DigitChip$Assembler" (55 : Nat) ({ cls := "DigitChip$Assembler", name := "endOfName", desc := "(I)I" } : Jvm.MethodName)) ∈ zT := zT_in b251 rfl
theorem b252 : (Jvm.Cond.privateMethod ({ cls := "DigitChip$Assembler", name := "endOfName", desc := "(I)I" } : Jvm.MethodName)) ∈ lw_tbl := zT_tb (List.mem_append_right tables_1_1 (List.mem_append_left (tables_1_3 ++ tables_1_4) (List.mem_of_getElem? (i := 12) rfl)))
theorem b253 : (Jvm.Cond.instanceMethod ({ cls := "DigitChip$Assembler", name := "endOfName", desc := "(I)I" } : Jvm.MethodName)) ∈ lw_tbl := zT_tb (List.mem_append_right tables_1_1 (List.mem_append_left (tables_1_3 ++ tables_1_4) (List.mem_of_getElem? (i := 13) rfl)))
theorem q253 : (Jvm.Cond.instanceMethod ({ cls := "DigitChip$Assembler", name := "endOfName", desc := "(I)I" } : Jvm.MethodName)) ∈ zT := zT_in b253 rfl
theorem b254 : (Jvm.Cond.code ({ cls := "DigitChip$Assembler", name := "endOfName", desc := "(I)I" } : Jvm.MethodName) prog_2_method_5_code (3 : Nat) (Option.some Jvm.ClassFile.FieldType.int)) ∈ lw_tbl := zT_tb (List.mem_append_right tables_1_1 (List.mem_append_left (tables_1_3 ++ tables_1_4) (List.mem_of_getElem? (i := 14) rfl)))
theorem q254 : (Jvm.Cond.code ({ cls := "DigitChip$Assembler", name := "endOfName", desc := "(I)I" } : Jvm.MethodName) prog_2_method_5_code (3 : Nat) (Option.some Jvm.ClassFile.FieldType.int)) ∈ zT := zT_in b254 rfl
theorem b255 : (Jvm.Cond.methodLink "DigitChip$Assembler" (59 : Nat) ({ cls := "DigitChip$Assembler", name := "takeName", desc := "(II)Z" } : Jvm.MethodName)) ∈ lw_tbl := zT_tb (List.mem_append_right tables_1_1 (List.mem_append_left (tables_1_3 ++ tables_1_4) (List.mem_of_getElem? (i := 15) rfl)))
theorem q255 : (Jvm.Cond.methodLink "DigitChip$Assembler" (59 : Nat) ({ cls := "DigitChip$Assembler", name := "takeName", desc := "(II)Z" } : Jvm.MethodName)) ∈ zT := zT_in b255 rfl
theorem b256 : (Jvm.Cond.privateMethod ({ cls := "DigitChip$Assembler", name := "takeName", desc := "(II)Z" } : Jvm.MethodName)) ∈ lw_tbl := zT_tb (List.mem_append_right tables_1_1 (List.mem_append_left (tables_1_3 ++ tables_1_4) (List.mem_of_getElem? (i := 16) rfl)))
theorem b257 : (Jvm.Cond.instanceMethod ({ cls := "DigitChip$Assembler", name := "takeName", desc := "(II)Z" } : Jvm.MethodName)) ∈ lw_tbl := zT_tb (List.mem_append_right tables_1_1 (List.mem_append_left (tables_1_3 ++ tables_1_4) (List.mem_of_getElem? (i := 17) rfl)))
theorem q257 : (Jvm.Cond.instanceMethod ({ cls := "DigitChip$Assembler", name := "takeName", desc := "(II)Z" } : Jvm.MethodName)) ∈ zT := zT_in b257 rfl
theorem b258 : (Jvm.Cond.code ({ cls := "DigitChip$Assembler", name := "takeName", desc := "(II)Z" } : Jvm.MethodName) prog_2_method_6_code (4 : Nat) (Option.some Jvm.ClassFile.FieldType.boolean)) ∈ lw_tbl := zT_tb (List.mem_append_right tables_1_1 (List.mem_append_left (tables_1_3 ++ tables_1_4) (List.mem_of_getElem? (i := 18) rfl)))
theorem q258 : (Jvm.Cond.code ({ cls := "DigitChip$Assembler", name := "takeName", desc := "(II)Z" } : Jvm.MethodName) prog_2_method_6_code (4 : Nat) (Option.some Jvm.ClassFile.FieldType.boolean)) ∈ zT := zT_in b258 rfl
theorem b259 : (Jvm.Cond.stringRef "DigitChip$Assembler" (66 : Nat) ":L") ∈ lw_tbl := zT_tb (List.mem_append_right tables_1_1 (List.mem_append_left (tables_1_3 ++ tables_1_4) (List.mem_of_getElem? (i := 19) rfl)))
theorem b260 : (Jvm.Cond.methodLink "DigitChip$Assembler" (68 : Nat) ({ cls := "DigitChip$Assembler", name := "findName", desc := "(Ljava/lang/String;II)I" } : Jvm.MethodName)) ∈ lw_tbl := zT_tb (List.mem_append_right tables_1_1 (List.mem_append_left (tables_1_3 ++ tables_1_4) (List.mem_of_getElem? (i := 20) rfl)))
theorem q260 : (Jvm.Cond.methodLink "DigitChip$Assembler" (68 : Nat) ({ cls := "DigitChip$Assembler", name := "findName", desc := "(Ljava/lang/String;II)I" } : Jvm.MethodName)) ∈ zT := zT_in b260 rfl
theorem b261 : (Jvm.Cond.privateMethod ({ cls := "DigitChip$Assembler", name := "findName", desc := "(Ljava/lang/String;II)I" } : Jvm.MethodName)) ∈ lw_tbl := zT_tb (List.mem_append_right tables_1_1 (List.mem_append_left (tables_1_3 ++ tables_1_4) (List.mem_of_getElem? (i := 21) rfl)))
theorem b262 : (Jvm.Cond.instanceMethod ({ cls := "DigitChip$Assembler", name := "findName", desc := "(Ljava/lang/String;II)I" } : Jvm.MethodName)) ∈ lw_tbl := zT_tb (List.mem_append_right tables_1_1 (List.mem_append_left (tables_1_3 ++ tables_1_4) (List.mem_of_getElem? (i := 22) rfl)))
theorem q262 : (Jvm.Cond.instanceMethod ({ cls := "DigitChip$Assembler", name := "findName", desc := "(Ljava/lang/String;II)I" } : Jvm.MethodName)) ∈ zT := zT_in b262 rfl
theorem b263 : (Jvm.Cond.code ({ cls := "DigitChip$Assembler", name := "findName", desc := "(Ljava/lang/String;II)I" } : Jvm.MethodName) prog_2_method_9_code (6 : Nat) (Option.some Jvm.ClassFile.FieldType.int)) ∈ lw_tbl := zT_tb (List.mem_append_right tables_1_1 (List.mem_append_left (tables_1_3 ++ tables_1_4) (List.mem_of_getElem? (i := 23) rfl)))
theorem q263 : (Jvm.Cond.code ({ cls := "DigitChip$Assembler", name := "findName", desc := "(Ljava/lang/String;II)I" } : Jvm.MethodName) prog_2_method_9_code (6 : Nat) (Option.some Jvm.ClassFile.FieldType.int)) ∈ zT := zT_in b263 rfl
theorem b264 : (Jvm.Cond.methodLink "DigitChip$Assembler" (85 : Nat) ({ cls := "java/lang/String", name := "charAt", desc := "(I)C" } : Jvm.MethodName)) ∈ lw_tbl := zT_tb (List.mem_append_right tables_1_1 (List.mem_append_left (tables_1_3 ++ tables_1_4) (List.mem_of_getElem? (i := 24) rfl)))
theorem q264 : (Jvm.Cond.methodLink "DigitChip$Assembler" (85 : Nat) ({ cls := "java/lang/String", name := "charAt", desc := "(I)C" } : Jvm.MethodName)) ∈ zT := zT_in b264 rfl
theorem b265 : (Jvm.Cond.instanceMethod ({ cls := "java/lang/String", name := "charAt", desc := "(I)C" } : Jvm.MethodName)) ∈ lw_tbl := zT_tb (List.mem_append_right tables_1_1 (List.mem_append_left (tables_1_3 ++ tables_1_4) (List.mem_of_getElem? (i := 25) rfl)))
theorem q265 : (Jvm.Cond.instanceMethod ({ cls := "java/lang/String", name := "charAt", desc := "(I)C" } : Jvm.MethodName)) ∈ zT := zT_in b265 rfl
theorem b266 : (Jvm.Cond.selects "java/lang/String" ({ cls := "java/lang/String", name := "charAt", desc := "(I)C" } : Jvm.MethodName) ({ cls := "java/lang/String", name := "charAt", desc := "(I)C" } : Jvm.MethodName)) ∈ lw_tbl := zT_tb (List.mem_append_right tables_1_1 (List.mem_append_left (tables_1_3 ++ tables_1_4) (List.mem_of_getElem? (i := 26) rfl)))
theorem q266 : (Jvm.Cond.selects "java/lang/String" ({ cls := "java/lang/String", name := "charAt", desc := "(I)C" } : Jvm.MethodName) ({ cls := "java/lang/String", name := "charAt", desc := "(I)C" } : Jvm.MethodName)) ∈ zT := zT_in b266 rfl
theorem b267 : (Jvm.Cond.code ({ cls := "java/lang/String", name := "charAt", desc := "(I)C" } : Jvm.MethodName) prog_13_method_56_code (2 : Nat) (Option.some Jvm.ClassFile.FieldType.char)) ∈ lw_tbl := zT_tb (List.mem_append_right tables_1_1 (List.mem_append_left (tables_1_3 ++ tables_1_4) (List.mem_of_getElem? (i := 27) rfl)))
theorem q267 : (Jvm.Cond.code ({ cls := "java/lang/String", name := "charAt", desc := "(I)C" } : Jvm.MethodName) prog_13_method_56_code (2 : Nat) (Option.some Jvm.ClassFile.FieldType.char)) ∈ zT := zT_in b267 rfl
theorem b268 : (Jvm.Cond.methodLink "java/lang/String" (492 : Nat) ({ cls := "java/lang/String", name := "isLatin1", desc := "()Z" } : Jvm.MethodName)) ∈ lw_tbl := zT_tb (List.mem_append_right tables_1_1 (List.mem_append_left (tables_1_3 ++ tables_1_4) (List.mem_of_getElem? (i := 28) rfl)))
theorem q268 : (Jvm.Cond.methodLink "java/lang/String" (492 : Nat) ({ cls := "java/lang/String", name := "isLatin1", desc := "()Z" } : Jvm.MethodName)) ∈ zT := zT_in b268 rfl
theorem b269 : (Jvm.Cond.instanceMethod ({ cls := "java/lang/String", name := "isLatin1", desc := "()Z" } : Jvm.MethodName)) ∈ lw_tbl := zT_tb (List.mem_append_right tables_1_1 (List.mem_append_left (tables_1_3 ++ tables_1_4) (List.mem_of_getElem? (i := 29) rfl)))
theorem q269 : (Jvm.Cond.instanceMethod ({ cls := "java/lang/String", name := "isLatin1", desc := "()Z" } : Jvm.MethodName)) ∈ zT := zT_in b269 rfl
theorem b270 : (Jvm.Cond.selects "java/lang/String" ({ cls := "java/lang/String", name := "isLatin1", desc := "()Z" } : Jvm.MethodName) ({ cls := "java/lang/String", name := "isLatin1", desc := "()Z" } : Jvm.MethodName)) ∈ lw_tbl := zT_tb (List.mem_append_right tables_1_1 (List.mem_append_left (tables_1_3 ++ tables_1_4) (List.mem_of_getElem? (i := 30) rfl)))
theorem q270 : (Jvm.Cond.selects "java/lang/String" ({ cls := "java/lang/String", name := "isLatin1", desc := "()Z" } : Jvm.MethodName) ({ cls := "java/lang/String", name := "isLatin1", desc := "()Z" } : Jvm.MethodName)) ∈ zT := zT_in b270 rfl
theorem b271 : (Jvm.Cond.code ({ cls := "java/lang/String", name := "isLatin1", desc := "()Z" } : Jvm.MethodName) prog_13_method_154_code (1 : Nat) (Option.some Jvm.ClassFile.FieldType.boolean)) ∈ lw_tbl := zT_tb (List.mem_append_right tables_1_1 (List.mem_append_left (tables_1_3 ++ tables_1_4) (List.mem_of_getElem? (i := 31) rfl)))
theorem q271 : (Jvm.Cond.code ({ cls := "java/lang/String", name := "isLatin1", desc := "()Z" } : Jvm.MethodName) prog_13_method_154_code (1 : Nat) (Option.some Jvm.ClassFile.FieldType.boolean)) ∈ zT := zT_in b271 rfl
theorem b272 : (Jvm.Cond.methodLink "java/lang/String" (495 : Nat) ({ cls := "java/lang/StringLatin1", name := "charAt", desc := "([BI)C" } : Jvm.MethodName)) ∈ lw_tbl := zT_tb (List.mem_append_right tables_1_1 (List.mem_append_left (tables_1_3 ++ tables_1_4) (List.mem_of_getElem? (i := 32) rfl)))
theorem q272 : (Jvm.Cond.methodLink "java/lang/String" (495 : Nat) ({ cls := "java/lang/StringLatin1", name := "charAt", desc := "([BI)C" } : Jvm.MethodName)) ∈ zT := zT_in b272 rfl
theorem b273 : (Jvm.Cond.static ({ cls := "java/lang/StringLatin1", name := "charAt", desc := "([BI)C" } : Jvm.MethodName)) ∈ lw_tbl := zT_tb (List.mem_append_right tables_1_1 (List.mem_append_left (tables_1_3 ++ tables_1_4) (List.mem_of_getElem? (i := 33) rfl)))
theorem q273 : (Jvm.Cond.static ({ cls := "java/lang/StringLatin1", name := "charAt", desc := "([BI)C" } : Jvm.MethodName)) ∈ zT := zT_in b273 rfl
theorem b274 : (Jvm.Cond.code ({ cls := "java/lang/StringLatin1", name := "charAt", desc := "([BI)C" } : Jvm.MethodName) prog_14_method_2_code (2 : Nat) (Option.some Jvm.ClassFile.FieldType.char)) ∈ lw_tbl := zT_tb (List.mem_append_right tables_1_1 (List.mem_append_left (tables_1_3 ++ tables_1_4) (List.mem_of_getElem? (i := 34) rfl)))
theorem q274 : (Jvm.Cond.code ({ cls := "java/lang/StringLatin1", name := "charAt", desc := "([BI)C" } : Jvm.MethodName) prog_14_method_2_code (2 : Nat) (Option.some Jvm.ClassFile.FieldType.char)) ∈ zT := zT_in b274 rfl
theorem b275 : (Jvm.Cond.methodLink "java/lang/StringLatin1" (9 : Nat) ({ cls := "java/lang/String", name := "checkIndex", desc := "(II)V" } : Jvm.MethodName)) ∈ lw_tbl := zT_tb (List.mem_append_right tables_1_1 (List.mem_append_left (tables_1_3 ++ tables_1_4) (List.mem_of_getElem? (i := 35) rfl)))
theorem q275 : (Jvm.Cond.methodLink "java/lang/StringLatin1" (9 : Nat) ({ cls := "java/lang/String", name := "checkIndex", desc := "(II)V" } : Jvm.MethodName)) ∈ zT := zT_in b275 rfl
theorem b276 : (Jvm.Cond.static ({ cls := "java/lang/String", name := "checkIndex", desc := "(II)V" } : Jvm.MethodName)) ∈ lw_tbl := zT_tb (List.mem_append_right tables_1_1 (List.mem_append_left (tables_1_3 ++ tables_1_4) (List.mem_of_getElem? (i := 36) rfl)))
theorem q276 : (Jvm.Cond.static ({ cls := "java/lang/String", name := "checkIndex", desc := "(II)V" } : Jvm.MethodName)) ∈ zT := zT_in b276 rfl
theorem b277 : (Jvm.Cond.code ({ cls := "java/lang/String", name := "checkIndex", desc := "(II)V" } : Jvm.MethodName) prog_13_method_155_code (2 : Nat) (Option.none : Option Jvm.ClassFile.FieldType)) ∈ lw_tbl := zT_tb (List.mem_append_right tables_1_1 (List.mem_append_left (tables_1_3 ++ tables_1_4) (List.mem_of_getElem? (i := 37) rfl)))
theorem q277 : (Jvm.Cond.code ({ cls := "java/lang/String", name := "checkIndex", desc := "(II)V" } : Jvm.MethodName) prog_13_method_155_code (2 : Nat) (Option.none : Option Jvm.ClassFile.FieldType)) ∈ zT := zT_in b277 rfl
theorem b278 : (Jvm.Cond.fieldLink "java/lang/String" (1053 : Nat) "jdk/internal/util/Preconditions" "SIOOBE_FORMATTER" "Ljava/util/function/BiFunction;") ∈ lw_tbl := zT_tb (List.mem_append_right tables_1_1 (List.mem_append_left (tables_1_3 ++ tables_1_4) (List.mem_of_getElem? (i := 38) rfl)))
theorem q278 : (Jvm.Cond.fieldLink "java/lang/String" (1053 : Nat) "jdk/internal/util/Preconditions" "SIOOBE_FORMATTER" "Ljava/util/function/BiFunction;") ∈ zT := zT_in b278 rfl
theorem b279 : (Jvm.Cond.laysStatic "jdk/internal/util/Preconditions" "SIOOBE_FORMATTER" "Ljava/util/function/BiFunction;") ∈ lw_tbl := zT_tb (List.mem_append_right tables_1_1 (List.mem_append_left (tables_1_3 ++ tables_1_4) (List.mem_of_getElem? (i := 39) rfl)))
theorem b280 : (Jvm.Cond.methodLink "java/lang/String" (1059 : Nat) ({ cls := "jdk/internal/util/Preconditions", name := "checkIndex", desc := "(IILjava/util/function/BiFunction;)I" } : Jvm.MethodName)) ∈ lw_tbl := zT_tb (List.mem_append_right tables_1_1 (List.mem_append_left (tables_1_3 ++ tables_1_4) (List.mem_of_getElem? (i := 40) rfl)))
theorem q280 : (Jvm.Cond.methodLink "java/lang/String" (1059 : Nat) ({ cls := "jdk/internal/util/Preconditions", name := "checkIndex", desc := "(IILjava/util/function/BiFunction;)I" } : Jvm.MethodName)) ∈ zT := zT_in b280 rfl
theorem b281 : (Jvm.Cond.static ({ cls := "jdk/internal/util/Preconditions", name := "checkIndex", desc := "(IILjava/util/function/BiFunction;)I" } : Jvm.MethodName)) ∈ lw_tbl := zT_tb (List.mem_append_right tables_1_1 (List.mem_append_left (tables_1_3 ++ tables_1_4) (List.mem_of_getElem? (i := 41) rfl)))
theorem q281 : (Jvm.Cond.static ({ cls := "jdk/internal/util/Preconditions", name := "checkIndex", desc := "(IILjava/util/function/BiFunction;)I" } : Jvm.MethodName)) ∈ zT := zT_in b281 rfl
theorem b282 : (Jvm.Cond.code ({ cls := "jdk/internal/util/Preconditions", name := "checkIndex", desc := "(IILjava/util/function/BiFunction;)I" } : Jvm.MethodName) prog_18_method_11_code (3 : Nat) (Option.some Jvm.ClassFile.FieldType.int)) ∈ lw_tbl := zT_tb (List.mem_append_right tables_1_1 (List.mem_append_left (tables_1_3 ++ tables_1_4) (List.mem_of_getElem? (i := 42) rfl)))
theorem q282 : (Jvm.Cond.code ({ cls := "jdk/internal/util/Preconditions", name := "checkIndex", desc := "(IILjava/util/function/BiFunction;)I" } : Jvm.MethodName) prog_18_method_11_code (3 : Nat) (Option.some Jvm.ClassFile.FieldType.int)) ∈ zT := zT_in b282 rfl
theorem b283 : (Jvm.Cond.methodLink "java/lang/String" (498 : Nat) ({ cls := "java/lang/StringUTF16", name := "charAt", desc := "([BI)C" } : Jvm.MethodName)) ∈ lw_tbl := zT_tb (List.mem_append_right tables_1_1 (List.mem_append_left (tables_1_3 ++ tables_1_4) (List.mem_of_getElem? (i := 43) rfl)))
theorem q283 : (Jvm.Cond.methodLink "java/lang/String" (498 : Nat) ({ cls := "java/lang/StringUTF16", name := "charAt", desc := "([BI)C" } : Jvm.MethodName)) ∈ zT := zT_in b283 rfl
theorem b284 : (Jvm.Cond.static ({ cls := "java/lang/StringUTF16", name := "charAt", desc := "([BI)C" } : Jvm.MethodName)) ∈ lw_tbl := zT_tb (List.mem_append_right tables_1_1 (List.mem_append_left (tables_1_3 ++ tables_1_4) (List.mem_of_getElem? (i := 44) rfl)))
theorem q284 : (Jvm.Cond.static ({ cls := "java/lang/StringUTF16", name := "charAt", desc := "([BI)C" } : Jvm.MethodName)) ∈ zT := zT_in b284 rfl
theorem b285 : (Jvm.Cond.code ({ cls := "java/lang/StringUTF16", name := "charAt", desc := "([BI)C" } : Jvm.MethodName) prog_15_method_83_code (2 : Nat) (Option.some Jvm.ClassFile.FieldType.char)) ∈ lw_tbl := zT_tb (List.mem_append_right tables_1_1 (List.mem_append_left (tables_1_3 ++ tables_1_4) (List.mem_of_getElem? (i := 45) rfl)))
theorem q285 : (Jvm.Cond.code ({ cls := "java/lang/StringUTF16", name := "charAt", desc := "([BI)C" } : Jvm.MethodName) prog_15_method_83_code (2 : Nat) (Option.some Jvm.ClassFile.FieldType.char)) ∈ zT := zT_in b285 rfl
theorem b286 : (Jvm.Cond.methodLink "java/lang/StringUTF16" (67 : Nat) ({ cls := "java/lang/StringUTF16", name := "checkIndex", desc := "(I[B)V" } : Jvm.MethodName)) ∈ lw_tbl := zT_tb (List.mem_append_right tables_1_1 (List.mem_append_left (tables_1_3 ++ tables_1_4) (List.mem_of_getElem? (i := 46) rfl)))
theorem q286 : (Jvm.Cond.methodLink "java/lang/StringUTF16" (67 : Nat) ({ cls := "java/lang/StringUTF16", name := "checkIndex", desc := "(I[B)V" } : Jvm.MethodName)) ∈ zT := zT_in b286 rfl
theorem b287 : (Jvm.Cond.static ({ cls := "java/lang/StringUTF16", name := "checkIndex", desc := "(I[B)V" } : Jvm.MethodName)) ∈ lw_tbl := zT_tb (List.mem_append_right tables_1_1 (List.mem_append_left (tables_1_3 ++ tables_1_4) (List.mem_of_getElem? (i := 47) rfl)))
theorem q287 : (Jvm.Cond.static ({ cls := "java/lang/StringUTF16", name := "checkIndex", desc := "(I[B)V" } : Jvm.MethodName)) ∈ zT := zT_in b287 rfl
theorem b288 : (Jvm.Cond.code ({ cls := "java/lang/StringUTF16", name := "checkIndex", desc := "(I[B)V" } : Jvm.MethodName) prog_15_method_91_code (2 : Nat) (Option.none : Option Jvm.ClassFile.FieldType)) ∈ lw_tbl := zT_tb (List.mem_append_right tables_1_1 (List.mem_append_left (tables_1_3 ++ tables_1_4) (List.mem_of_getElem? (i := 48) rfl)))
theorem q288 : (Jvm.Cond.code ({ cls := "java/lang/StringUTF16", name := "checkIndex", desc := "(I[B)V" } : Jvm.MethodName) prog_15_method_91_code (2 : Nat) (Option.none : Option Jvm.ClassFile.FieldType)) ∈ zT := zT_in b288 rfl
theorem b289 : (Jvm.Cond.methodLink "java/lang/StringUTF16" (48 : Nat) ({ cls := "java/lang/StringUTF16", name := "length", desc := "([B)I" } : Jvm.MethodName)) ∈ lw_tbl := zT_tb (List.mem_append_right tables_1_1 (List.mem_append_left (tables_1_3 ++ tables_1_4) (List.mem_of_getElem? (i := 49) rfl)))
theorem q289 : (Jvm.Cond.methodLink "java/lang/StringUTF16" (48 : Nat) ({ cls := "java/lang/StringUTF16", name := "length", desc := "([B)I" } : Jvm.MethodName)) ∈ zT := zT_in b289 rfl
theorem b290 : (Jvm.Cond.static ({ cls := "java/lang/StringUTF16", name := "length", desc := "([B)I" } : Jvm.MethodName)) ∈ lw_tbl := zT_tb (List.mem_append_right tables_1_1 (List.mem_append_left (tables_1_3 ++ tables_1_4) (List.mem_of_getElem? (i := 50) rfl)))
theorem q290 : (Jvm.Cond.static ({ cls := "java/lang/StringUTF16", name := "length", desc := "([B)I" } : Jvm.MethodName)) ∈ zT := zT_in b290 rfl
theorem b291 : (Jvm.Cond.code ({ cls := "java/lang/StringUTF16", name := "length", desc := "([B)I" } : Jvm.MethodName) prog_15_method_6_code (1 : Nat) (Option.some Jvm.ClassFile.FieldType.int)) ∈ lw_tbl := zT_tb (List.mem_append_right tables_1_1 (List.mem_append_left (tables_1_3 ++ tables_1_4) (List.mem_of_getElem? (i := 51) rfl)))
theorem q291 : (Jvm.Cond.code ({ cls := "java/lang/StringUTF16", name := "length", desc := "([B)I" } : Jvm.MethodName) prog_15_method_6_code (1 : Nat) (Option.some Jvm.ClassFile.FieldType.int)) ∈ zT := zT_in b291 rfl
theorem b292 : (Jvm.Cond.methodLink "java/lang/StringUTF16" (414 : Nat) ({ cls := "java/lang/String", name := "checkIndex", desc := "(II)V" } : Jvm.MethodName)) ∈ lw_tbl := zT_tb (List.mem_append_right tables_1_1 (List.mem_append_left (tables_1_3 ++ tables_1_4) (List.mem_of_getElem? (i := 52) rfl)))
theorem q292 : (Jvm.Cond.methodLink "java/lang/StringUTF16" (414 : Nat) ({ cls := "java/lang/String", name := "checkIndex", desc := "(II)V" } : Jvm.MethodName)) ∈ zT := zT_in b292 rfl
theorem b293 : (Jvm.Cond.methodLink "java/lang/StringUTF16" (71 : Nat) ({ cls := "java/lang/StringUTF16", name := "getChar", desc := "([BI)C" } : Jvm.MethodName)) ∈ lw_tbl := zT_tb (List.mem_append_right tables_1_1 (List.mem_append_left (tables_1_3 ++ tables_1_4) (List.mem_of_getElem? (i := 53) rfl)))
theorem q293 : (Jvm.Cond.methodLink "java/lang/StringUTF16" (71 : Nat) ({ cls := "java/lang/StringUTF16", name := "getChar", desc := "([BI)C" } : Jvm.MethodName)) ∈ zT := zT_in b293 rfl
theorem b294 : (Jvm.Cond.static ({ cls := "java/lang/StringUTF16", name := "getChar", desc := "([BI)C" } : Jvm.MethodName)) ∈ lw_tbl := zT_tb (List.mem_append_right tables_1_1 (List.mem_append_left (tables_1_3 ++ tables_1_4) (List.mem_of_getElem? (i := 54) rfl)))
theorem q294 : (Jvm.Cond.static ({ cls := "java/lang/StringUTF16", name := "getChar", desc := "([BI)C" } : Jvm.MethodName)) ∈ zT := zT_in b294 rfl
theorem b295 : (Jvm.Cond.code ({ cls := "java/lang/StringUTF16", name := "getChar", desc := "([BI)C" } : Jvm.MethodName) prog_15_method_5_code (2 : Nat) (Option.some Jvm.ClassFile.FieldType.char)) ∈ lw_tbl := zT_tb (List.mem_append_right tables_1_1 (List.mem_append_left (tables_1_3 ++ tables_1_4) (List.mem_of_getElem? (i := 55) rfl)))
theorem q295 : (Jvm.Cond.code ({ cls := "java/lang/StringUTF16", name := "getChar", desc := "([BI)C" } : Jvm.MethodName) prog_15_method_5_code (2 : Nat) (Option.some Jvm.ClassFile.FieldType.char)) ∈ zT := zT_in b295 rfl
theorem b296 : (Jvm.Cond.fieldLink "java/lang/StringUTF16" (44 : Nat) "java/lang/StringUTF16" "$assertionsDisabled" "Z") ∈ lw_tbl := zT_tb (List.mem_append_right tables_1_1 (List.mem_append_left (tables_1_3 ++ tables_1_4) (List.mem_of_getElem? (i := 56) rfl)))
theorem q296 : (Jvm.Cond.fieldLink "java/lang/StringUTF16" (44 : Nat) "java/lang/StringUTF16" "$assertionsDisabled" "Z") ∈ zT := zT_in b296 rfl
theorem b297 : (Jvm.Cond.laysStatic "java/lang/StringUTF16" "$assertionsDisabled" "Z") ∈ lw_tbl := zT_tb (List.mem_append_right tables_1_1 (List.mem_append_left (tables_1_3 ++ tables_1_4) (List.mem_of_getElem? (i := 57) rfl)))
theorem b298 : (Jvm.Cond.fieldLink "java/lang/StringUTF16" (59 : Nat) "java/lang/StringUTF16" "HI_BYTE_SHIFT" "I") ∈ lw_tbl := zT_tb (List.mem_append_right tables_1_1 (List.mem_append_left (tables_1_3 ++ tables_1_4) (List.mem_of_getElem? (i := 58) rfl)))
theorem q298 : (Jvm.Cond.fieldLink "java/lang/StringUTF16" (59 : Nat) "java/lang/StringUTF16" "HI_BYTE_SHIFT" "I") ∈ zT := zT_in b298 rfl
theorem b299 : (Jvm.Cond.laysStatic "java/lang/StringUTF16" "HI_BYTE_SHIFT" "I") ∈ lw_tbl := zT_tb (List.mem_append_right tables_1_1 (List.mem_append_left (tables_1_3 ++ tables_1_4) (List.mem_of_getElem? (i := 59) rfl)))
theorem b300 : (Jvm.Cond.fieldLink "java/lang/StringUTF16" (63 : Nat) "java/lang/StringUTF16" "LO_BYTE_SHIFT" "I") ∈ lw_tbl := zT_tb (List.mem_append_right tables_1_1 (List.mem_append_left (tables_1_3 ++ tables_1_4) (List.mem_of_getElem? (i := 60) rfl)))
theorem q300 : (Jvm.Cond.fieldLink "java/lang/StringUTF16" (63 : Nat) "java/lang/StringUTF16" "LO_BYTE_SHIFT" "I") ∈ zT := zT_in b300 rfl
theorem b301 : (Jvm.Cond.laysStatic "java/lang/StringUTF16" "LO_BYTE_SHIFT" "I") ∈ lw_tbl := zT_tb (List.mem_append_right tables_1_1 (List.mem_append_left (tables_1_3 ++ tables_1_4) (List.mem_of_getElem? (i := 61) rfl)))
theorem b302 : (Jvm.Cond.methodLink "DigitChip$Assembler" (89 : Nat) ({ cls := "DigitChip$Assembler", name := "isName", desc := "(Ljava/lang/String;III)Z" } : Jvm.MethodName)) ∈ lw_tbl := zT_tb (List.mem_append_right tables_1_1 (List.mem_append_left (tables_1_3 ++ tables_1_4) (List.mem_of_getElem? (i := 62) rfl)))
theorem q302 : (Jvm.Cond.methodLink "DigitChip$Assembler" (89 : Nat) ({ cls := "DigitChip$Assembler", name := "isName", desc := "(Ljava/lang/String;III)Z" } : Jvm.MethodName)) ∈ zT := zT_in b302 rfl
theorem b303 : (Jvm.Cond.privateMethod ({ cls := "DigitChip$Assembler", name := "isName", desc := "(Ljava/lang/String;III)Z" } : Jvm.MethodName)) ∈ lw_tbl := zT_tb (List.mem_append_right tables_1_1 (List.mem_append_left (tables_1_3 ++ tables_1_4) (List.mem_of_getElem? (i := 63) rfl)))
theorem b304 : (Jvm.Cond.instanceMethod ({ cls := "DigitChip$Assembler", name := "isName", desc := "(Ljava/lang/String;III)Z" } : Jvm.MethodName)) ∈ lw_tbl := zT_tb (List.mem_append_right tables_1_1 (List.mem_append_left (tables_1_3 ++ tables_1_4) (List.mem_of_getElem? (i := 64) rfl)))
theorem q304 : (Jvm.Cond.instanceMethod ({ cls := "DigitChip$Assembler", name := "isName", desc := "(Ljava/lang/String;III)Z" } : Jvm.MethodName)) ∈ zT := zT_in b304 rfl
theorem b305 : (Jvm.Cond.code ({ cls := "DigitChip$Assembler", name := "isName", desc := "(Ljava/lang/String;III)Z" } : Jvm.MethodName) prog_2_method_10_code (8 : Nat) (Option.some Jvm.ClassFile.FieldType.boolean)) ∈ lw_tbl := zT_tb (List.mem_append_right tables_1_1 (List.mem_append_left (tables_1_3 ++ tables_1_4) (List.mem_of_getElem? (i := 65) rfl)))
theorem q305 : (Jvm.Cond.code ({ cls := "DigitChip$Assembler", name := "isName", desc := "(Ljava/lang/String;III)Z" } : Jvm.MethodName) prog_2_method_10_code (8 : Nat) (Option.some Jvm.ClassFile.FieldType.boolean)) ∈ zT := zT_in b305 rfl
theorem b306 : (Jvm.Cond.stringRef "DigitChip$Assembler" (93 : Nat) "0123456789abcdef") ∈ lw_tbl := zT_tb (List.mem_append_right tables_1_1 (List.mem_append_left (tables_1_3 ++ tables_1_4) (List.mem_of_getElem? (i := 66) rfl)))
theorem b307 : (Jvm.Cond.methodLink "DigitChip$Assembler" (95 : Nat) ({ cls := "java/lang/String", name := "indexOf", desc := "(I)I" } : Jvm.MethodName)) ∈ lw_tbl := zT_tb (List.mem_append_right tables_1_1 (List.mem_append_left (tables_1_3 ++ tables_1_4) (List.mem_of_getElem? (i := 67) rfl)))
theorem q307 : (Jvm.Cond.methodLink "DigitChip$Assembler" (95 : Nat) ({ cls := "java/lang/String", name := "indexOf", desc := "(I)I" } : Jvm.MethodName)) ∈ zT := zT_in b307 rfl
theorem b308 : (Jvm.Cond.instanceMethod ({ cls := "java/lang/String", name := "indexOf", desc := "(I)I" } : Jvm.MethodName)) ∈ lw_tbl := zT_tb (List.mem_append_right tables_1_1 (List.mem_append_left (tables_1_3 ++ tables_1_4) (List.mem_of_getElem? (i := 68) rfl)))
theorem q308 : (Jvm.Cond.instanceMethod ({ cls := "java/lang/String", name := "indexOf", desc := "(I)I" } : Jvm.MethodName)) ∈ zT := zT_in b308 rfl
theorem b309 : (Jvm.Cond.selects "java/lang/String" ({ cls := "java/lang/String", name := "indexOf", desc := "(I)I" } : Jvm.MethodName) ({ cls := "java/lang/String", name := "indexOf", desc := "(I)I" } : Jvm.MethodName)) ∈ lw_tbl := zT_tb (List.mem_append_right tables_1_1 (List.mem_append_left (tables_1_3 ++ tables_1_4) (List.mem_of_getElem? (i := 69) rfl)))
theorem q309 : (Jvm.Cond.selects "java/lang/String" ({ cls := "java/lang/String", name := "indexOf", desc := "(I)I" } : Jvm.MethodName) ({ cls := "java/lang/String", name := "indexOf", desc := "(I)I" } : Jvm.MethodName)) ∈ zT := zT_in b309 rfl
theorem b310 : (Jvm.Cond.code ({ cls := "java/lang/String", name := "indexOf", desc := "(I)I" } : Jvm.MethodName) prog_13_method_79_code (2 : Nat) (Option.some Jvm.ClassFile.FieldType.int)) ∈ lw_tbl := zT_tb (List.mem_append_right tables_1_1 (List.mem_append_left (tables_1_3 ++ tables_1_4) (List.mem_of_getElem? (i := 70) rfl)))
theorem q310 : (Jvm.Cond.code ({ cls := "java/lang/String", name := "indexOf", desc := "(I)I" } : Jvm.MethodName) prog_13_method_79_code (2 : Nat) (Option.some Jvm.ClassFile.FieldType.int)) ∈ zT := zT_in b310 rfl
theorem b311 : (Jvm.Cond.methodLink "java/lang/String" (633 : Nat) ({ cls := "java/lang/String", name := "indexOf", desc := "(II)I" } : Jvm.MethodName)) ∈ lw_tbl := zT_tb (List.mem_append_right tables_1_1 (List.mem_append_left (tables_1_3 ++ tables_1_4) (List.mem_of_getElem? (i := 71) rfl)))
theorem q311 : (Jvm.Cond.methodLink "java/lang/String" (633 : Nat) ({ cls := "java/lang/String", name := "indexOf", desc := "(II)I" } : Jvm.MethodName)) ∈ zT := zT_in b311 rfl
theorem b312 : (Jvm.Cond.instanceMethod ({ cls := "java/lang/String", name := "indexOf", desc := "(II)I" } : Jvm.MethodName)) ∈ lw_tbl := zT_tb (List.mem_append_right tables_1_1 (List.mem_append_left (tables_1_3 ++ tables_1_4) (List.mem_of_getElem? (i := 72) rfl)))
theorem q312 : (Jvm.Cond.instanceMethod ({ cls := "java/lang/String", name := "indexOf", desc := "(II)I" } : Jvm.MethodName)) ∈ zT := zT_in b312 rfl
theorem b313 : (Jvm.Cond.selects "java/lang/String" ({ cls := "java/lang/String", name := "indexOf", desc := "(II)I" } : Jvm.MethodName) ({ cls := "java/lang/String", name := "indexOf", desc := "(II)I" } : Jvm.MethodName)) ∈ lw_tbl := zT_tb (List.mem_append_right tables_1_1 (List.mem_append_left (tables_1_3 ++ tables_1_4) (List.mem_of_getElem? (i := 73) rfl)))
theorem q313 : (Jvm.Cond.selects "java/lang/String" ({ cls := "java/lang/String", name := "indexOf", desc := "(II)I" } : Jvm.MethodName) ({ cls := "java/lang/String", name := "indexOf", desc := "(II)I" } : Jvm.MethodName)) ∈ zT := zT_in b313 rfl
theorem b314 : (Jvm.Cond.code ({ cls := "java/lang/String", name := "indexOf", desc := "(II)I" } : Jvm.MethodName) prog_13_method_80_code (3 : Nat) (Option.some Jvm.ClassFile.FieldType.int)) ∈ lw_tbl := zT_tb (List.mem_append_right tables_1_1 (List.mem_append_left (tables_1_3 ++ tables_1_4) (List.mem_of_getElem? (i := 74) rfl)))
theorem q314 : (Jvm.Cond.code ({ cls := "java/lang/String", name := "indexOf", desc := "(II)I" } : Jvm.MethodName) prog_13_method_80_code (3 : Nat) (Option.some Jvm.ClassFile.FieldType.int)) ∈ zT := zT_in b314 rfl
theorem b315 : (Jvm.Cond.methodLink "java/lang/String" (505 : Nat) ({ cls := "java/lang/String", name := "length", desc := "()I" } : Jvm.MethodName)) ∈ lw_tbl := zT_tb (List.mem_append_right tables_1_1 (List.mem_append_left (tables_1_3 ++ tables_1_4) (List.mem_of_getElem? (i := 75) rfl)))
theorem q315 : (Jvm.Cond.methodLink "java/lang/String" (505 : Nat) ({ cls := "java/lang/String", name := "length", desc := "()I" } : Jvm.MethodName)) ∈ zT := zT_in b315 rfl
theorem b316 : (Jvm.Cond.methodLink "java/lang/String" (637 : Nat) ({ cls := "java/lang/StringLatin1", name := "indexOf", desc := "([BIII)I" } : Jvm.MethodName)) ∈ lw_tbl := zT_tb (List.mem_append_right tables_1_1 (List.mem_append_left (tables_1_3 ++ tables_1_4) (List.mem_of_getElem? (i := 76) rfl)))
theorem q316 : (Jvm.Cond.methodLink "java/lang/String" (637 : Nat) ({ cls := "java/lang/StringLatin1", name := "indexOf", desc := "([BIII)I" } : Jvm.MethodName)) ∈ zT := zT_in b316 rfl
theorem b317 : (Jvm.Cond.static ({ cls := "java/lang/StringLatin1", name := "indexOf", desc := "([BIII)I" } : Jvm.MethodName)) ∈ lw_tbl := zT_tb (List.mem_append_right tables_1_1 (List.mem_append_left (tables_1_3 ++ tables_1_4) (List.mem_of_getElem? (i := 77) rfl)))
theorem q317 : (Jvm.Cond.static ({ cls := "java/lang/StringLatin1", name := "indexOf", desc := "([BIII)I" } : Jvm.MethodName)) ∈ zT := zT_in b317 rfl
theorem b318 : (Jvm.Cond.code ({ cls := "java/lang/StringLatin1", name := "indexOf", desc := "([BIII)I" } : Jvm.MethodName) prog_14_method_22_code (4 : Nat) (Option.some Jvm.ClassFile.FieldType.int)) ∈ lw_tbl := zT_tb (List.mem_append_right tables_1_1 (List.mem_append_left (tables_1_3 ++ tables_1_4) (List.mem_of_getElem? (i := 78) rfl)))
theorem q318 : (Jvm.Cond.code ({ cls := "java/lang/StringLatin1", name := "indexOf", desc := "([BIII)I" } : Jvm.MethodName) prog_14_method_22_code (4 : Nat) (Option.some Jvm.ClassFile.FieldType.int)) ∈ zT := zT_in b318 rfl
theorem b319 : (Jvm.Cond.methodLink "java/lang/StringLatin1" (88 : Nat) ({ cls := "java/lang/StringLatin1", name := "canEncode", desc := "(I)Z" } : Jvm.MethodName)) ∈ lw_tbl := zT_tb (List.mem_append_right tables_1_1 (List.mem_append_left (tables_1_3 ++ tables_1_4) (List.mem_of_getElem? (i := 79) rfl)))
theorem q319 : (Jvm.Cond.methodLink "java/lang/StringLatin1" (88 : Nat) ({ cls := "java/lang/StringLatin1", name := "canEncode", desc := "(I)Z" } : Jvm.MethodName)) ∈ zT := zT_in b319 rfl
theorem b320 : (Jvm.Cond.static ({ cls := "java/lang/StringLatin1", name := "canEncode", desc := "(I)Z" } : Jvm.MethodName)) ∈ lw_tbl := zT_tb (List.mem_append_right tables_1_1 (List.mem_append_left (tables_1_3 ++ tables_1_4) (List.mem_of_getElem? (i := 80) rfl)))
theorem q320 : (Jvm.Cond.static ({ cls := "java/lang/StringLatin1", name := "canEncode", desc := "(I)Z" } : Jvm.MethodName)) ∈ zT := zT_in b320 rfl
theorem b321 : (Jvm.Cond.code ({ cls := "java/lang/StringLatin1", name := "canEncode", desc := "(I)Z" } : Jvm.MethodName) prog_14_method_4_code (1 : Nat) (Option.some Jvm.ClassFile.FieldType.boolean)) ∈ lw_tbl := zT_tb (List.mem_append_right tables_1_1 (List.mem_append_left (tables_1_3 ++ tables_1_4) (List.mem_of_getElem? (i := 81) rfl)))
theorem q321 : (Jvm.Cond.code ({ cls := "java/lang/StringLatin1", name := "canEncode", desc := "(I)Z" } : Jvm.MethodName) prog_14_method_4_code (1 : Nat) (Option.some Jvm.ClassFile.FieldType.boolean)) ∈ zT := zT_in b321 rfl
theorem b322 : (Jvm.Cond.methodLink "java/lang/StringLatin1" (92 : Nat) ({ cls := "java/lang/Math", name := "max", desc := "(II)I" } : Jvm.MethodName)) ∈ lw_tbl := zT_tb (List.mem_append_right tables_1_1 (List.mem_append_left (tables_1_3 ++ tables_1_4) (List.mem_of_getElem? (i := 82) rfl)))
theorem q322 : (Jvm.Cond.methodLink "java/lang/StringLatin1" (92 : Nat) ({ cls := "java/lang/Math", name := "max", desc := "(II)I" } : Jvm.MethodName)) ∈ zT := zT_in b322 rfl
theorem b323 : (Jvm.Cond.static ({ cls := "java/lang/Math", name := "max", desc := "(II)I" } : Jvm.MethodName)) ∈ lw_tbl := zT_tb (List.mem_append_right tables_1_1 (List.mem_append_left (tables_1_3 ++ tables_1_4) (List.mem_of_getElem? (i := 83) rfl)))
theorem q323 : (Jvm.Cond.static ({ cls := "java/lang/Math", name := "max", desc := "(II)I" } : Jvm.MethodName)) ∈ zT := zT_in b323 rfl
theorem b324 : (Jvm.Cond.code ({ cls := "java/lang/Math", name := "max", desc := "(II)I" } : Jvm.MethodName) prog_11_method_65_code (2 : Nat) (Option.some Jvm.ClassFile.FieldType.int)) ∈ lw_tbl := zT_tb (List.mem_append_right tables_1_1 (List.mem_append_left (tables_1_3 ++ tables_1_4) (List.mem_of_getElem? (i := 84) rfl)))
theorem q324 : (Jvm.Cond.code ({ cls := "java/lang/Math", name := "max", desc := "(II)I" } : Jvm.MethodName) prog_11_method_65_code (2 : Nat) (Option.some Jvm.ClassFile.FieldType.int)) ∈ zT := zT_in b324 rfl
theorem b325 : (Jvm.Cond.methodLink "java/lang/StringLatin1" (38 : Nat) ({ cls := "java/lang/Math", name := "min", desc := "(II)I" } : Jvm.MethodName)) ∈ lw_tbl := zT_tb (List.mem_append_right tables_1_1 (List.mem_append_left (tables_1_3 ++ tables_1_4) (List.mem_of_getElem? (i := 85) rfl)))
theorem q325 : (Jvm.Cond.methodLink "java/lang/StringLatin1" (38 : Nat) ({ cls := "java/lang/Math", name := "min", desc := "(II)I" } : Jvm.MethodName)) ∈ zT := zT_in b325 rfl
theorem b326 : (Jvm.Cond.static ({ cls := "java/lang/Math", name := "min", desc := "(II)I" } : Jvm.MethodName)) ∈ lw_tbl := zT_tb (List.mem_append_right tables_1_1 (List.mem_append_left (tables_1_3 ++ tables_1_4) (List.mem_of_getElem? (i := 86) rfl)))
theorem q326 : (Jvm.Cond.static ({ cls := "java/lang/Math", name := "min", desc := "(II)I" } : Jvm.MethodName)) ∈ zT := zT_in b326 rfl
theorem b327 : (Jvm.Cond.code ({ cls := "java/lang/Math", name := "min", desc := "(II)I" } : Jvm.MethodName) prog_11_method_69_code (2 : Nat) (Option.some Jvm.ClassFile.FieldType.int)) ∈ lw_tbl := zT_tb (List.mem_append_right tables_1_1 (List.mem_append_left (tables_1_3 ++ tables_1_4) (List.mem_of_getElem? (i := 87) rfl)))
theorem q327 : (Jvm.Cond.code ({ cls := "java/lang/Math", name := "min", desc := "(II)I" } : Jvm.MethodName) prog_11_method_69_code (2 : Nat) (Option.some Jvm.ClassFile.FieldType.int)) ∈ zT := zT_in b327 rfl
theorem b328 : (Jvm.Cond.methodLink "java/lang/StringLatin1" (95 : Nat) ({ cls := "java/lang/StringLatin1", name := "indexOfChar", desc := "([BIII)I" } : Jvm.MethodName)) ∈ lw_tbl := zT_tb (List.mem_append_right tables_1_1 (List.mem_append_left (tables_1_3 ++ tables_1_4) (List.mem_of_getElem? (i := 88) rfl)))
theorem q328 : (Jvm.Cond.methodLink "java/lang/StringLatin1" (95 : Nat) ({ cls := "java/lang/StringLatin1", name := "indexOfChar", desc := "([BIII)I" } : Jvm.MethodName)) ∈ zT := zT_in b328 rfl
theorem b329 : (Jvm.Cond.static ({ cls := "java/lang/StringLatin1", name := "indexOfChar", desc := "([BIII)I" } : Jvm.MethodName)) ∈ lw_tbl := zT_tb (List.mem_append_right tables_1_1 (List.mem_append_left (tables_1_3 ++ tables_1_4) (List.mem_of_getElem? (i := 89) rfl)))
theorem q329 : (Jvm.Cond.static ({ cls := "java/lang/StringLatin1", name := "indexOfChar", desc := "([BIII)I" } : Jvm.MethodName)) ∈ zT := zT_in b329 rfl
theorem b330 : (Jvm.Cond.code ({ cls := "java/lang/StringLatin1", name := "indexOfChar", desc := "([BIII)I" } : Jvm.MethodName) prog_14_method_23_code (6 : Nat) (Option.some Jvm.ClassFile.FieldType.int)) ∈ lw_tbl := zT_tb (List.mem_append_right tables_1_1 (List.mem_append_left (tables_1_3 ++ tables_1_4) (List.mem_of_getElem? (i := 90) rfl)))
theorem q330 : (Jvm.Cond.code ({ cls := "java/lang/StringLatin1", name := "indexOfChar", desc := "([BIII)I" } : Jvm.MethodName) prog_14_method_23_code (6 : Nat) (Option.some Jvm.ClassFile.FieldType.int)) ∈ zT := zT_in b330 rfl
theorem b331 : (Jvm.Cond.methodLink "java/lang/String" (640 : Nat) ({ cls := "java/lang/StringUTF16", name := "indexOf", desc := "([BIII)I" } : Jvm.MethodName)) ∈ lw_tbl := zT_tb (List.mem_append_right tables_1_1 (List.mem_append_left (tables_1_3 ++ tables_1_4) (List.mem_of_getElem? (i := 91) rfl)))
theorem q331 : (Jvm.Cond.methodLink "java/lang/String" (640 : Nat) ({ cls := "java/lang/StringUTF16", name := "indexOf", desc := "([BIII)I" } : Jvm.MethodName)) ∈ zT := zT_in b331 rfl
theorem b332 : (Jvm.Cond.static ({ cls := "java/lang/StringUTF16", name := "indexOf", desc := "([BIII)I" } : Jvm.MethodName)) ∈ lw_tbl := zT_tb (List.mem_append_right tables_1_1 (List.mem_append_left (tables_1_3 ++ tables_1_4) (List.mem_of_getElem? (i := 92) rfl)))
theorem q332 : (Jvm.Cond.static ({ cls := "java/lang/StringUTF16", name := "indexOf", desc := "([BIII)I" } : Jvm.MethodName)) ∈ zT := zT_in b332 rfl
theorem b333 : (Jvm.Cond.code ({ cls := "java/lang/StringUTF16", name := "indexOf", desc := "([BIII)I" } : Jvm.MethodName) prog_15_method_40_code (4 : Nat) (Option.some Jvm.ClassFile.FieldType.int)) ∈ lw_tbl := zT_tb (List.mem_append_right tables_1_1 (List.mem_append_left (tables_1_3 ++ tables_1_4) (List.mem_of_getElem? (i := 93) rfl)))
theorem q333 : (Jvm.Cond.code ({ cls := "java/lang/StringUTF16", name := "indexOf", desc := "([BIII)I" } : Jvm.MethodName) prog_15_method_40_code (4 : Nat) (Option.some Jvm.ClassFile.FieldType.int)) ∈ zT := zT_in b333 rfl
theorem b334 : (Jvm.Cond.methodLink "java/lang/StringUTF16" (224 : Nat) ({ cls := "java/lang/Math", name := "max", desc := "(II)I" } : Jvm.MethodName)) ∈ lw_tbl := zT_tb (List.mem_append_right tables_1_1 (List.mem_append_left (tables_1_3 ++ tables_1_4) (List.mem_of_getElem? (i := 94) rfl)))
theorem q334 : (Jvm.Cond.methodLink "java/lang/StringUTF16" (224 : Nat) ({ cls := "java/lang/Math", name := "max", desc := "(II)I" } : Jvm.MethodName)) ∈ zT := zT_in b334 rfl
theorem b335 : (Jvm.Cond.methodLink "java/lang/StringUTF16" (183 : Nat) ({ cls := "java/lang/Math", name := "min", desc := "(II)I" } : Jvm.MethodName)) ∈ lw_tbl := zT_tb (List.mem_append_right tables_1_1 (List.mem_append_left (tables_1_3 ++ tables_1_4) (List.mem_of_getElem? (i := 95) rfl)))
theorem q335 : (Jvm.Cond.methodLink "java/lang/StringUTF16" (183 : Nat) ({ cls := "java/lang/Math", name := "min", desc := "(II)I" } : Jvm.MethodName)) ∈ zT := zT_in b335 rfl
theorem b336 : (Jvm.Cond.constant "java/lang/StringUTF16" (227 : Nat) (65536 : Int32)) ∈ lw_tbl := zT_tb (List.mem_append_right tables_1_1 (List.mem_append_left (tables_1_3 ++ tables_1_4) (List.mem_of_getElem? (i := 96) rfl)))
theorem q336 : (Jvm.Cond.constant "java/lang/StringUTF16" (227 : Nat) (65536 : Int32)) ∈ zT := zT_in b336 rfl
theorem b337 : (Jvm.Cond.methodLink "java/lang/StringUTF16" (228 : Nat) ({ cls := "java/lang/StringUTF16", name := "indexOfChar", desc := "([BIII)I" } : Jvm.MethodName)) ∈ lw_tbl := zT_tb (List.mem_append_right tables_1_1 (List.mem_append_left (tables_1_3 ++ tables_1_4) (List.mem_of_getElem? (i := 97) rfl)))
theorem q337 : (Jvm.Cond.methodLink "java/lang/StringUTF16" (228 : Nat) ({ cls := "java/lang/StringUTF16", name := "indexOfChar", desc := "([BIII)I" } : Jvm.MethodName)) ∈ zT := zT_in b337 rfl
theorem b338 : (Jvm.Cond.static ({ cls := "java/lang/StringUTF16", name := "indexOfChar", desc := "([BIII)I" } : Jvm.MethodName)) ∈ lw_tbl := zT_tb (List.mem_append_right tables_1_1 (List.mem_append_left (tables_1_3 ++ tables_1_4) (List.mem_of_getElem? (i := 98) rfl)))
theorem q338 : (Jvm.Cond.static ({ cls := "java/lang/StringUTF16", name := "indexOfChar", desc := "([BIII)I" } : Jvm.MethodName)) ∈ zT := zT_in b338 rfl
theorem b339 : (Jvm.Cond.code ({ cls := "java/lang/StringUTF16", name := "indexOfChar", desc := "([BIII)I" } : Jvm.MethodName) prog_15_method_47_code (4 : Nat) (Option.some Jvm.ClassFile.FieldType.int)) ∈ lw_tbl := zT_tb (List.mem_append_right tables_1_1 (List.mem_append_left (tables_1_3 ++ tables_1_4) (List.mem_of_getElem? (i := 99) rfl)))
theorem q339 : (Jvm.Cond.code ({ cls := "java/lang/StringUTF16", name := "indexOfChar", desc := "([BIII)I" } : Jvm.MethodName) prog_15_method_47_code (4 : Nat) (Option.some Jvm.ClassFile.FieldType.int)) ∈ zT := zT_in b339 rfl
theorem b340 : (Jvm.Cond.methodLink "java/lang/StringUTF16" (96 : Nat) ({ cls := "java/lang/StringUTF16", name := "checkBoundsBeginEnd", desc := "(II[B)V" } : Jvm.MethodName)) ∈ lw_tbl := zT_tb (List.mem_append_right tables_1_1 (List.mem_append_left (tables_1_3 ++ tables_1_4) (List.mem_of_getElem? (i := 100) rfl)))
theorem q340 : (Jvm.Cond.methodLink "java/lang/StringUTF16" (96 : Nat) ({ cls := "java/lang/StringUTF16", name := "checkBoundsBeginEnd", desc := "(II[B)V" } : Jvm.MethodName)) ∈ zT := zT_in b340 rfl
theorem b341 : (Jvm.Cond.static ({ cls := "java/lang/StringUTF16", name := "checkBoundsBeginEnd", desc := "(II[B)V" } : Jvm.MethodName)) ∈ lw_tbl := zT_tb (List.mem_append_right tables_1_1 (List.mem_append_left (tables_1_3 ++ tables_1_4) (List.mem_of_getElem? (i := 101) rfl)))
theorem q341 : (Jvm.Cond.static ({ cls := "java/lang/StringUTF16", name := "checkBoundsBeginEnd", desc := "(II[B)V" } : Jvm.MethodName)) ∈ zT := zT_in b341 rfl
theorem b342 : (Jvm.Cond.code ({ cls := "java/lang/StringUTF16", name := "checkBoundsBeginEnd", desc := "(II[B)V" } : Jvm.MethodName) prog_15_method_93_code (3 : Nat) (Option.none : Option Jvm.ClassFile.FieldType)) ∈ lw_tbl := zT_tb (List.mem_append_right tables_1_1 (List.mem_append_left (tables_1_3 ++ tables_1_4) (List.mem_of_getElem? (i := 102) rfl)))
theorem q342 : (Jvm.Cond.code ({ cls := "java/lang/StringUTF16", name := "checkBoundsBeginEnd", desc := "(II[B)V" } : Jvm.MethodName) prog_15_method_93_code (3 : Nat) (Option.none : Option Jvm.ClassFile.FieldType)) ∈ zT := zT_in b342 rfl
theorem b343 : (Jvm.Cond.methodLink "java/lang/StringUTF16" (241 : Nat) ({ cls := "java/lang/String", name := "checkBoundsBeginEnd", desc := "(III)V" } : Jvm.MethodName)) ∈ lw_tbl := zT_tb (List.mem_append_right tables_1_1 (List.mem_append_left (tables_1_3 ++ tables_1_4) (List.mem_of_getElem? (i := 103) rfl)))
theorem q343 : (Jvm.Cond.methodLink "java/lang/StringUTF16" (241 : Nat) ({ cls := "java/lang/String", name := "checkBoundsBeginEnd", desc := "(III)V" } : Jvm.MethodName)) ∈ zT := zT_in b343 rfl
theorem b344 : (Jvm.Cond.static ({ cls := "java/lang/String", name := "checkBoundsBeginEnd", desc := "(III)V" } : Jvm.MethodName)) ∈ lw_tbl := zT_tb (List.mem_append_right tables_1_1 (List.mem_append_left (tables_1_3 ++ tables_1_4) (List.mem_of_getElem? (i := 104) rfl)))
theorem q344 : (Jvm.Cond.static ({ cls := "java/lang/String", name := "checkBoundsBeginEnd", desc := "(III)V" } : Jvm.MethodName)) ∈ zT := zT_in b344 rfl
theorem b345 : (Jvm.Cond.code ({ cls := "java/lang/String", name := "checkBoundsBeginEnd", desc := "(III)V" } : Jvm.MethodName) prog_13_method_158_code (3 : Nat) (Option.none : Option Jvm.ClassFile.FieldType)) ∈ lw_tbl := zT_tb (List.mem_append_right tables_1_1 (List.mem_append_left (tables_1_3 ++ tables_1_4) (List.mem_of_getElem? (i := 105) rfl)))
theorem q345 : (Jvm.Cond.code ({ cls := "java/lang/String", name := "checkBoundsBeginEnd", desc := "(III)V" } : Jvm.MethodName) prog_13_method_158_code (3 : Nat) (Option.none : Option Jvm.ClassFile.FieldType)) ∈ zT := zT_in b345 rfl
theorem b346 : (Jvm.Cond.methodLink "java/lang/String" (1062 : Nat) ({ cls := "jdk/internal/util/Preconditions", name := "checkFromToIndex", desc := "(IIILjava/util/function/BiFunction;)I" } : Jvm.MethodName)) ∈ lw_tbl := zT_tb (List.mem_append_right tables_1_1 (List.mem_append_left (tables_1_3 ++ tables_1_4) (List.mem_of_getElem? (i := 106) rfl)))
theorem q346 : (Jvm.Cond.methodLink "java/lang/String" (1062 : Nat) ({ cls := "jdk/internal/util/Preconditions", name := "checkFromToIndex", desc := "(IIILjava/util/function/BiFunction;)I" } : Jvm.MethodName)) ∈ zT := zT_in b346 rfl
theorem b347 : (Jvm.Cond.static ({ cls := "jdk/internal/util/Preconditions", name := "checkFromToIndex", desc := "(IIILjava/util/function/BiFunction;)I" } : Jvm.MethodName)) ∈ lw_tbl := zT_tb (List.mem_append_right tables_1_1 (List.mem_append_left (tables_1_3 ++ tables_1_4) (List.mem_of_getElem? (i := 107) rfl)))
theorem q347 : (Jvm.Cond.static ({ cls := "jdk/internal/util/Preconditions", name := "checkFromToIndex", desc := "(IIILjava/util/function/BiFunction;)I" } : Jvm.MethodName)) ∈ zT := zT_in b347 rfl
theorem b348 : (Jvm.Cond.code ({ cls := "jdk/internal/util/Preconditions", name := "checkFromToIndex", desc := "(IIILjava/util/function/BiFunction;)I" } : Jvm.MethodName) prog_18_method_12_code (4 : Nat) (Option.some Jvm.ClassFile.FieldType.int)) ∈ lw_tbl := zT_tb (List.mem_append_right tables_1_1 (List.mem_append_left (tables_1_3 ++ tables_1_4) (List.mem_of_getElem? (i := 108) rfl)))
theorem q348 : (Jvm.Cond.code ({ cls := "jdk/internal/util/Preconditions", name := "checkFromToIndex", desc := "(IIILjava/util/function/BiFunction;)I" } : Jvm.MethodName) prog_18_method_12_code (4 : Nat) (Option.some Jvm.ClassFile.FieldType.int)) ∈ zT := zT_in b348 rfl
theorem b349 : (Jvm.Cond.methodLink "java/lang/StringUTF16" (244 : Nat) ({ cls := "java/lang/StringUTF16", name := "indexOfCharUnsafe", desc := "([BIII)I" } : Jvm.MethodName)) ∈ lw_tbl := zT_tb (List.mem_append_right tables_1_1 (List.mem_append_left (tables_1_3 ++ tables_1_4) (List.mem_of_getElem? (i := 109) rfl)))
theorem q349 : (Jvm.Cond.methodLink "java/lang/StringUTF16" (244 : Nat) ({ cls := "java/lang/StringUTF16", name := "indexOfCharUnsafe", desc := "([BIII)I" } : Jvm.MethodName)) ∈ zT := zT_in b349 rfl
theorem b350 : (Jvm.Cond.static ({ cls := "java/lang/StringUTF16", name := "indexOfCharUnsafe", desc := "([BIII)I" } : Jvm.MethodName)) ∈ lw_tbl := zT_tb (List.mem_append_right tables_1_1 (List.mem_append_left (tables_1_3 ++ tables_1_4) (List.mem_of_getElem? (i := 110) rfl)))
theorem q350 : (Jvm.Cond.static ({ cls := "java/lang/StringUTF16", name := "indexOfCharUnsafe", desc := "([BIII)I" } : Jvm.MethodName)) ∈ zT := zT_in b350 rfl
theorem b351 : (Jvm.Cond.code ({ cls := "java/lang/StringUTF16", name := "indexOfCharUnsafe", desc := "([BIII)I" } : Jvm.MethodName) prog_15_method_48_code (5 : Nat) (Option.some Jvm.ClassFile.FieldType.int)) ∈ lw_tbl := zT_tb (List.mem_append_right tables_1_1 (List.mem_append_left (tables_1_3 ++ tables_1_4) (List.mem_of_getElem? (i := 111) rfl)))
theorem q351 : (Jvm.Cond.code ({ cls := "java/lang/StringUTF16", name := "indexOfCharUnsafe", desc := "([BIII)I" } : Jvm.MethodName) prog_15_method_48_code (5 : Nat) (Option.some Jvm.ClassFile.FieldType.int)) ∈ zT := zT_in b351 rfl
theorem b352 : (Jvm.Cond.methodLink "java/lang/StringUTF16" (232 : Nat) ({ cls := "java/lang/StringUTF16", name := "indexOfSupplementary", desc := "([BIII)I" } : Jvm.MethodName)) ∈ lw_tbl := zT_tb (List.mem_append_right tables_1_1 (List.mem_append_left (tables_1_3 ++ tables_1_4) (List.mem_of_getElem? (i := 112) rfl)))
theorem q352 : (Jvm.Cond.methodLink "java/lang/StringUTF16" (232 : Nat) ({ cls := "java/lang/StringUTF16", name := "indexOfSupplementary", desc := "([BIII)I" } : Jvm.MethodName)) ∈ zT := zT_in b352 rfl
theorem b353 : (Jvm.Cond.static ({ cls := "java/lang/StringUTF16", name := "indexOfSupplementary", desc := "([BIII)I" } : Jvm.MethodName)) ∈ lw_tbl := zT_tb (List.mem_append_right tables_1_1 (List.mem_append_left (tables_1_3 ++ tables_1_4) (List.mem_of_getElem? (i := 113) rfl)))
theorem q353 : (Jvm.Cond.static ({ cls := "java/lang/StringUTF16", name := "indexOfSupplementary", desc := "([BIII)I" } : Jvm.MethodName)) ∈ zT := zT_in b353 rfl
theorem b354 : (Jvm.Cond.code ({ cls := "java/lang/StringUTF16", name := "indexOfSupplementary", desc := "([BIII)I" } : Jvm.MethodName) prog_15_method_49_code (7 : Nat) (Option.some Jvm.ClassFile.FieldType.int)) ∈ lw_tbl := zT_tb (List.mem_append_right tables_1_1 (List.mem_append_left (tables_1_3 ++ tables_1_4) (List.mem_of_getElem? (i := 114) rfl)))
theorem q354 : (Jvm.Cond.code ({ cls := "java/lang/StringUTF16", name := "indexOfSupplementary", desc := "([BIII)I" } : Jvm.MethodName) prog_15_method_49_code (7 : Nat) (Option.some Jvm.ClassFile.FieldType.int)) ∈ zT := zT_in b354 rfl
theorem b355 : (Jvm.Cond.methodLink "java/lang/StringUTF16" (164 : Nat) ({ cls := "java/lang/Character", name := "isValidCodePoint", desc := "(I)Z" } : Jvm.MethodName)) ∈ lw_tbl := zT_tb (List.mem_append_right tables_1_1 (List.mem_append_left (tables_1_3 ++ tables_1_4) (List.mem_of_getElem? (i := 115) rfl)))
theorem q355 : (Jvm.Cond.methodLink "java/lang/StringUTF16" (164 : Nat) ({ cls := "java/lang/Character", name := "isValidCodePoint", desc := "(I)Z" } : Jvm.MethodName)) ∈ zT := zT_in b355 rfl
theorem b356 : (Jvm.Cond.static ({ cls := "java/lang/Character", name := "isValidCodePoint", desc := "(I)Z" } : Jvm.MethodName)) ∈ lw_tbl := zT_tb (List.mem_append_right tables_1_1 (List.mem_append_left (tables_1_3 ++ tables_1_4) (List.mem_of_getElem? (i := 116) rfl)))
theorem q356 : (Jvm.Cond.static ({ cls := "java/lang/Character", name := "isValidCodePoint", desc := "(I)Z" } : Jvm.MethodName)) ∈ zT := zT_in b356 rfl
theorem b357 : (Jvm.Cond.code ({ cls := "java/lang/Character", name := "isValidCodePoint", desc := "(I)Z" } : Jvm.MethodName) prog_8_method_11_code (2 : Nat) (Option.some Jvm.ClassFile.FieldType.boolean)) ∈ lw_tbl := zT_tb (List.mem_append_right tables_1_1 (List.mem_append_left (tables_1_3 ++ tables_1_4) (List.mem_of_getElem? (i := 117) rfl)))
theorem q357 : (Jvm.Cond.code ({ cls := "java/lang/Character", name := "isValidCodePoint", desc := "(I)Z" } : Jvm.MethodName) prog_8_method_11_code (2 : Nat) (Option.some Jvm.ClassFile.FieldType.boolean)) ∈ zT := zT_in b357 rfl
theorem b358 : (Jvm.Cond.methodLink "java/lang/StringUTF16" (157 : Nat) ({ cls := "java/lang/Character", name := "highSurrogate", desc := "(I)C" } : Jvm.MethodName)) ∈ lw_tbl := zT_tb (List.mem_append_right tables_1_1 (List.mem_append_left (tables_1_3 ++ tables_1_4) (List.mem_of_getElem? (i := 118) rfl)))
theorem q358 : (Jvm.Cond.methodLink "java/lang/StringUTF16" (157 : Nat) ({ cls := "java/lang/Character", name := "highSurrogate", desc := "(I)C" } : Jvm.MethodName)) ∈ zT := zT_in b358 rfl
theorem b359 : (Jvm.Cond.static ({ cls := "java/lang/Character", name := "highSurrogate", desc := "(I)C" } : Jvm.MethodName)) ∈ lw_tbl := zT_tb (List.mem_append_right tables_1_1 (List.mem_append_left (tables_1_3 ++ tables_1_4) (List.mem_of_getElem? (i := 119) rfl)))
theorem q359 : (Jvm.Cond.static ({ cls := "java/lang/Character", name := "highSurrogate", desc := "(I)C" } : Jvm.MethodName)) ∈ zT := zT_in b359 rfl
theorem b360 : (Jvm.Cond.code ({ cls := "java/lang/Character", name := "highSurrogate", desc := "(I)C" } : Jvm.MethodName) prog_8_method_28_code (1 : Nat) (Option.some Jvm.ClassFile.FieldType.char)) ∈ lw_tbl := zT_tb (List.mem_append_right tables_1_1 (List.mem_append_left (tables_1_3 ++ tables_1_4) (List.mem_of_getElem? (i := 120) rfl)))
theorem q360 : (Jvm.Cond.code ({ cls := "java/lang/Character", name := "highSurrogate", desc := "(I)C" } : Jvm.MethodName) prog_8_method_28_code (1 : Nat) (Option.some Jvm.ClassFile.FieldType.char)) ∈ zT := zT_in b360 rfl
theorem b361 : (Jvm.Cond.constant "java/lang/Character" (110 : Nat) (55232 : Int32)) ∈ lw_tbl := zT_tb (List.mem_append_right tables_1_1 (List.mem_append_left (tables_1_3 ++ tables_1_4) (List.mem_of_getElem? (i := 121) rfl)))
theorem q361 : (Jvm.Cond.constant "java/lang/Character" (110 : Nat) (55232 : Int32)) ∈ zT := zT_in b361 rfl
theorem b362 : (Jvm.Cond.methodLink "java/lang/StringUTF16" (161 : Nat) ({ cls := "java/lang/Character", name := "lowSurrogate", desc := "(I)C" } : Jvm.MethodName)) ∈ lw_tbl := zT_tb (List.mem_append_right tables_1_1 (List.mem_append_left (tables_1_3 ++ tables_1_4) (List.mem_of_getElem? (i := 122) rfl)))
theorem q362 : (Jvm.Cond.methodLink "java/lang/StringUTF16" (161 : Nat) ({ cls := "java/lang/Character", name := "lowSurrogate", desc := "(I)C" } : Jvm.MethodName)) ∈ zT := zT_in b362 rfl
theorem b363 : (Jvm.Cond.static ({ cls := "java/lang/Character", name := "lowSurrogate", desc := "(I)C" } : Jvm.MethodName)) ∈ lw_tbl := zT_tb (List.mem_append_right tables_1_1 (List.mem_append_left (tables_1_3 ++ tables_1_4) (List.mem_of_getElem? (i := 123) rfl)))
theorem q363 : (Jvm.Cond.static ({ cls := "java/lang/Character", name := "lowSurrogate", desc := "(I)C" } : Jvm.MethodName)) ∈ zT := zT_in b363 rfl
theorem b364 : (Jvm.Cond.code ({ cls := "java/lang/Character", name := "lowSurrogate", desc := "(I)C" } : Jvm.MethodName) prog_8_method_29_code (1 : Nat) (Option.some Jvm.ClassFile.FieldType.char)) ∈ lw_tbl := zT_tb (List.mem_append_right tables_1_1 (List.mem_append_left (tables_1_3 ++ tables_1_4) (List.mem_of_getElem? (i := 124) rfl)))
theorem q364 : (Jvm.Cond.code ({ cls := "java/lang/Character", name := "lowSurrogate", desc := "(I)C" } : Jvm.MethodName) prog_8_method_29_code (1 : Nat) (Option.some Jvm.ClassFile.FieldType.char)) ∈ zT := zT_in b364 rfl
theorem b365 : (Jvm.Cond.constant "java/lang/Character" (76 : Nat) (56320 : Int32)) ∈ lw_tbl := zT_tb (List.mem_append_right tables_1_1 (List.mem_append_left (tables_1_3 ++ tables_1_4) (List.mem_of_getElem? (i := 125) rfl)))
theorem q365 : (Jvm.Cond.constant "java/lang/Character" (76 : Nat) (56320 : Int32)) ∈ zT := zT_in b365 rfl
theorem b366 : (Jvm.Cond.stringRef "DigitChip$Assembler" (98 : Nat) "pqexsmnw") ∈ lw_tbl := zT_tb (List.mem_append_right tables_1_1 (List.mem_append_left (tables_1_3 ++ tables_1_4) (List.mem_of_getElem? (i := 126) rfl)))
theorem b367 : (Jvm.Cond.methodLink "DigitChip$Assembler" (72 : Nat) ({ cls := "DigitChip$Assembler", name := "takeLabel", desc := "(I)Z" } : Jvm.MethodName)) ∈ lw_tbl := zT_tb (List.mem_append_right tables_1_1 (List.mem_append_left (tables_1_3 ++ tables_1_4) (List.mem_of_getElem? (i := 127) rfl)))
theorem q367 : (Jvm.Cond.methodLink "DigitChip$Assembler" (72 : Nat) ({ cls := "DigitChip$Assembler", name := "takeLabel", desc := "(I)Z" } : Jvm.MethodName)) ∈ zT := zT_in b367 rfl
theorem b368 : (Jvm.Cond.privateMethod ({ cls := "DigitChip$Assembler", name := "takeLabel", desc := "(I)Z" } : Jvm.MethodName)) ∈ lw_tbl := zT_tb (List.mem_append_right tables_1_1 (List.mem_append_left (tables_1_3 ++ tables_1_4) (List.mem_of_getElem? (i := 128) rfl)))
theorem b369 : (Jvm.Cond.instanceMethod ({ cls := "DigitChip$Assembler", name := "takeLabel", desc := "(I)Z" } : Jvm.MethodName)) ∈ lw_tbl := zT_tb (List.mem_append_right tables_1_1 (List.mem_append_left (tables_1_3 ++ tables_1_4) (List.mem_of_getElem? (i := 129) rfl)))
theorem q369 : (Jvm.Cond.instanceMethod ({ cls := "DigitChip$Assembler", name := "takeLabel", desc := "(I)Z" } : Jvm.MethodName)) ∈ zT := zT_in b369 rfl
theorem b370 : (Jvm.Cond.code ({ cls := "DigitChip$Assembler", name := "takeLabel", desc := "(I)Z" } : Jvm.MethodName) prog_2_method_7_code (2 : Nat) (Option.some Jvm.ClassFile.FieldType.boolean)) ∈ lw_tbl := zT_tb (List.mem_append_right tables_1_1 (List.mem_append_left (tables_1_3 ++ tables_1_4) (List.mem_of_getElem? (i := 130) rfl)))
theorem q370 : (Jvm.Cond.code ({ cls := "DigitChip$Assembler", name := "takeLabel", desc := "(I)Z" } : Jvm.MethodName) prog_2_method_7_code (2 : Nat) (Option.some Jvm.ClassFile.FieldType.boolean)) ∈ zT := zT_in b370 rfl
theorem b371 : (Jvm.Cond.methodLink "DigitChip$Assembler" (75 : Nat) ({ cls := "DigitChip$Assembler", name := "wordOfName", desc := "(II)I" } : Jvm.MethodName)) ∈ lw_tbl := zT_tb (List.mem_append_right tables_1_1 (List.mem_append_left (tables_1_3 ++ tables_1_4) (List.mem_of_getElem? (i := 131) rfl)))
theorem q371 : (Jvm.Cond.methodLink "DigitChip$Assembler" (75 : Nat) ({ cls := "DigitChip$Assembler", name := "wordOfName", desc := "(II)I" } : Jvm.MethodName)) ∈ zT := zT_in b371 rfl
theorem b372 : (Jvm.Cond.privateMethod ({ cls := "DigitChip$Assembler", name := "wordOfName", desc := "(II)I" } : Jvm.MethodName)) ∈ lw_tbl := zT_tb (List.mem_append_right tables_1_1 (List.mem_append_left (tables_1_3 ++ tables_1_4) (List.mem_of_getElem? (i := 132) rfl)))
theorem b373 : (Jvm.Cond.instanceMethod ({ cls := "DigitChip$Assembler", name := "wordOfName", desc := "(II)I" } : Jvm.MethodName)) ∈ lw_tbl := zT_tb (List.mem_append_right tables_1_1 (List.mem_append_left (tables_1_3 ++ tables_1_4) (List.mem_of_getElem? (i := 133) rfl)))
theorem q373 : (Jvm.Cond.instanceMethod ({ cls := "DigitChip$Assembler", name := "wordOfName", desc := "(II)I" } : Jvm.MethodName)) ∈ zT := zT_in b373 rfl
theorem b374 : (Jvm.Cond.code ({ cls := "DigitChip$Assembler", name := "wordOfName", desc := "(II)I" } : Jvm.MethodName) prog_2_method_8_code (4 : Nat) (Option.some Jvm.ClassFile.FieldType.int)) ∈ lw_tbl := zT_tb (List.mem_append_right tables_1_1 (List.mem_append_left (tables_1_3 ++ tables_1_4) (List.mem_of_getElem? (i := 134) rfl)))
theorem q374 : (Jvm.Cond.code ({ cls := "DigitChip$Assembler", name := "wordOfName", desc := "(II)I" } : Jvm.MethodName) prog_2_method_8_code (4 : Nat) (Option.some Jvm.ClassFile.FieldType.int)) ∈ zT := zT_in b374 rfl
theorem b375 : (Jvm.Cond.stringRef "DigitChip$Assembler" (79 : Nat) "no p=N ?p=N sN+ sN- ?sN lN p+ p- push pop back key stop C:M down") ∈ lw_tbl := zT_tb (List.mem_append_right tables_1_1 (List.mem_append_left (tables_1_3 ++ tables_1_4) (List.mem_of_getElem? (i := 135) rfl)))
theorem b376 : (Jvm.Cond.stringRef "DigitChip$Assembler" (81 : Nat) "A=0.F B=0.F C=0.F A:B.F B=A.F A:C.F C=B.F B:C.F A=A+B.F A=A+C.F C=A+C.F A=A+1.F C=C+1.F A=A-B.F A=A-C.F C=A-C.F A=A-1.F C=C-1.F C=-C.F C=-C-1.F A<.F A>.F B>.F C>.F ?A<B.F ?A<C.F ?B.F ?C.F ?A=0.F ?C=0.F C=C+C.F A=C.F") ∈ lw_tbl := zT_tb (List.mem_append_right tables_1_1 (List.mem_append_left (tables_1_3 ++ tables_1_4) (List.mem_of_getElem? (i := 136) rfl)))
theorem b377 : (Jvm.Cond.stringRef "DigitChip$Assembler" (83 : Nat) "@L >L") ∈ lw_tbl := zT_tb (List.mem_append_right tables_1_1 (List.mem_append_left (tables_1_3 ++ tables_1_4) (List.mem_of_getElem? (i := 137) rfl)))
theorem b378 : (Jvm.Cond.methodLink "DigitChip$Assembler" (63 : Nat) ({ cls := "DigitChip$Assembler", name := "fillInLabels", desc := "()V" } : Jvm.MethodName)) ∈ lw_tbl := zT_tb (List.mem_append_right tables_1_1 (List.mem_append_left (tables_1_3 ++ tables_1_4) (List.mem_of_getElem? (i := 138) rfl)))
theorem q378 : (Jvm.Cond.methodLink "DigitChip$Assembler" (63 : Nat) ({ cls := "DigitChip$Assembler", name := "fillInLabels", desc := "()V" } : Jvm.MethodName)) ∈ zT := zT_in b378 rfl
theorem b379 : (Jvm.Cond.privateMethod ({ cls := "DigitChip$Assembler", name := "fillInLabels", desc := "()V" } : Jvm.MethodName)) ∈ lw_tbl := zT_tb (List.mem_append_right tables_1_1 (List.mem_append_left (tables_1_3 ++ tables_1_4) (List.mem_of_getElem? (i := 139) rfl)))
theorem b380 : (Jvm.Cond.instanceMethod ({ cls := "DigitChip$Assembler", name := "fillInLabels", desc := "()V" } : Jvm.MethodName)) ∈ lw_tbl := zT_tb (List.mem_append_right tables_1_1 (List.mem_append_left (tables_1_3 ++ tables_1_4) (List.mem_of_getElem? (i := 140) rfl)))
theorem q380 : (Jvm.Cond.instanceMethod ({ cls := "DigitChip$Assembler", name := "fillInLabels", desc := "()V" } : Jvm.MethodName)) ∈ zT := zT_in b380 rfl
theorem b381 : (Jvm.Cond.code ({ cls := "DigitChip$Assembler", name := "fillInLabels", desc := "()V" } : Jvm.MethodName) prog_2_method_11_code (3 : Nat) (Option.none : Option Jvm.ClassFile.FieldType)) ∈ lw_tbl := zT_tb (List.mem_append_right tables_1_1 (List.mem_append_left (tables_1_3 ++ tables_1_4) (List.mem_of_getElem? (i := 141) rfl)))
theorem q381 : (Jvm.Cond.code ({ cls := "DigitChip$Assembler", name := "fillInLabels", desc := "()V" } : Jvm.MethodName) prog_2_method_11_code (3 : Nat) (Option.none : Option Jvm.ClassFile.FieldType)) ∈ zT := zT_in b381 rfl
theorem b382 : (Jvm.Cond.classLink "DigitChip" (31 : Nat) "java/lang/IllegalArgumentException") ∈ lw_tbl := zT_tb (List.mem_append_right tables_1_1 (List.mem_append_left (tables_1_3 ++ tables_1_4) (List.mem_of_getElem? (i := 142) rfl)))
theorem q382 : (Jvm.Cond.classLink "DigitChip" (31 : Nat) "java/lang/IllegalArgumentException") ∈ zT := zT_in b382 rfl
theorem b383 : (Jvm.Cond.instantiable "java/lang/IllegalArgumentException" (6 : Nat)) ∈ lw_tbl := zT_tb (List.mem_append_right tables_1_1 (List.mem_append_left (tables_1_3 ++ tables_1_4) (List.mem_of_getElem? (i := 143) rfl)))
theorem q383 : (Jvm.Cond.instantiable "java/lang/IllegalArgumentException" (6 : Nat)) ∈ zT := zT_in b383 rfl
theorem b384 : (Jvm.Cond.castable "java/lang/IllegalArgumentException" "java/lang/IllegalArgumentException") ∈ lw_tbl := zT_tb (List.mem_append_right tables_1_1 (List.mem_append_left (tables_1_3 ++ tables_1_4) (List.mem_of_getElem? (i := 144) rfl)))
theorem b385 : (Jvm.Cond.declares ({ cls := "java/lang/RuntimeException", name := "<init>", desc := "()V" } : Jvm.MethodName)) ∈ lw_tbl := zT_tb (List.mem_append_right tables_1_1 (List.mem_append_left (tables_1_3 ++ tables_1_4) (List.mem_of_getElem? (i := 145) rfl)))
theorem b386 : (Jvm.Cond.declares ({ cls := "java/lang/RuntimeException", name := "<init>", desc := "(Ljava/lang/String;)V" } : Jvm.MethodName)) ∈ lw_tbl := zT_tb (List.mem_append_right tables_1_1 (List.mem_append_left (tables_1_3 ++ tables_1_4) (List.mem_of_getElem? (i := 146) rfl)))
theorem b387 : (Jvm.Cond.declares ({ cls := "java/lang/Exception", name := "<init>", desc := "()V" } : Jvm.MethodName)) ∈ lw_tbl := zT_tb (List.mem_append_right tables_1_1 (List.mem_append_left (tables_1_3 ++ tables_1_4) (List.mem_of_getElem? (i := 147) rfl)))
theorem b388 : (Jvm.Cond.declares ({ cls := "java/lang/Exception", name := "<init>", desc := "(Ljava/lang/String;)V" } : Jvm.MethodName)) ∈ lw_tbl := zT_tb (List.mem_append_right tables_1_1 (List.mem_append_left (tables_1_3 ++ tables_1_4) (List.mem_of_getElem? (i := 148) rfl)))
theorem b389 : (Jvm.Cond.declares ({ cls := "java/lang/Throwable", name := "<init>", desc := "()V" } : Jvm.MethodName)) ∈ lw_tbl := zT_tb (List.mem_append_right tables_1_1 (List.mem_append_left (tables_1_3 ++ tables_1_4) (List.mem_of_getElem? (i := 149) rfl)))
theorem b390 : (Jvm.Cond.declares ({ cls := "java/lang/Throwable", name := "<init>", desc := "(Ljava/lang/String;)V" } : Jvm.MethodName)) ∈ lw_tbl := zT_tb (List.mem_append_right tables_1_1 (List.mem_append_left (tables_1_3 ++ tables_1_4) (List.mem_of_getElem? (i := 150) rfl)))
theorem b391 : (Jvm.Cond.selects "java/lang/IllegalArgumentException" ({ cls := "java/lang/Throwable", name := "fillInStackTrace", desc := "(I)Ljava/lang/Throwable;" } : Jvm.MethodName) ({ cls := "java/lang/Throwable", name := "fillInStackTrace", desc := "(I)Ljava/lang/Throwable;" } : Jvm.MethodName)) ∈ lw_tbl := zT_tb (List.mem_append_right tables_1_1 (List.mem_append_left (tables_1_3 ++ tables_1_4) (List.mem_of_getElem? (i := 151) rfl)))
theorem q391 : (Jvm.Cond.selects "java/lang/IllegalArgumentException" ({ cls := "java/lang/Throwable", name := "fillInStackTrace", desc := "(I)Ljava/lang/Throwable;" } : Jvm.MethodName) ({ cls := "java/lang/Throwable", name := "fillInStackTrace", desc := "(I)Ljava/lang/Throwable;" } : Jvm.MethodName)) ∈ zT := zT_in b391 rfl
theorem b392 : (Jvm.Cond.selects "java/lang/IllegalArgumentException" ({ cls := "java/lang/Throwable", name := "fillInStackTrace", desc := "()Ljava/lang/Throwable;" } : Jvm.MethodName) ({ cls := "java/lang/Throwable", name := "fillInStackTrace", desc := "()Ljava/lang/Throwable;" } : Jvm.MethodName)) ∈ lw_tbl := zT_tb (List.mem_append_right tables_1_1 (List.mem_append_left (tables_1_3 ++ tables_1_4) (List.mem_of_getElem? (i := 152) rfl)))
theorem q392 : (Jvm.Cond.selects "java/lang/IllegalArgumentException" ({ cls := "java/lang/Throwable", name := "fillInStackTrace", desc := "()Ljava/lang/Throwable;" } : Jvm.MethodName) ({ cls := "java/lang/Throwable", name := "fillInStackTrace", desc := "()Ljava/lang/Throwable;" } : Jvm.MethodName)) ∈ zT := zT_in b392 rfl
theorem b393 : (Jvm.Cond.lays "java/lang/IllegalArgumentException" "java/lang/Throwable" "cause" "Ljava/lang/Throwable;") ∈ lw_tbl := zT_tb (List.mem_append_right tables_1_1 (List.mem_append_left (tables_1_3 ++ tables_1_4) (List.mem_of_getElem? (i := 153) rfl)))
theorem q393 : (Jvm.Cond.lays "java/lang/IllegalArgumentException" "java/lang/Throwable" "cause" "Ljava/lang/Throwable;") ∈ zT := zT_in b393 rfl
theorem b394 : (Jvm.Cond.lays "java/lang/Throwable" "java/lang/Throwable" "cause" "Ljava/lang/Throwable;") ∈ lw_tbl := zT_tb (List.mem_append_right tables_1_1 (List.mem_append_left (tables_1_3 ++ tables_1_4) (List.mem_of_getElem? (i := 154) rfl)))
theorem q394 : (Jvm.Cond.lays "java/lang/Throwable" "java/lang/Throwable" "cause" "Ljava/lang/Throwable;") ∈ zT := zT_in b394 rfl
theorem b395 : (Jvm.Cond.lays "java/lang/IllegalArgumentException" "java/lang/Throwable" "stackTrace" "[Ljava/lang/StackTraceElement;") ∈ lw_tbl := zT_tb (List.mem_append_right tables_1_1 (List.mem_append_left (tables_1_3 ++ tables_1_4) (List.mem_of_getElem? (i := 155) rfl)))
theorem q395 : (Jvm.Cond.lays "java/lang/IllegalArgumentException" "java/lang/Throwable" "stackTrace" "[Ljava/lang/StackTraceElement;") ∈ zT := zT_in b395 rfl
theorem b396 : (Jvm.Cond.lays "java/lang/Throwable" "java/lang/Throwable" "stackTrace" "[Ljava/lang/StackTraceElement;") ∈ lw_tbl := zT_tb (List.mem_append_right tables_1_1 (List.mem_append_left (tables_1_3 ++ tables_1_4) (List.mem_of_getElem? (i := 156) rfl)))
theorem q396 : (Jvm.Cond.lays "java/lang/Throwable" "java/lang/Throwable" "stackTrace" "[Ljava/lang/StackTraceElement;") ∈ zT := zT_in b396 rfl
theorem b397 : (Jvm.Cond.lays "java/lang/IllegalArgumentException" "java/lang/Throwable" "suppressedExceptions" "Ljava/util/List;") ∈ lw_tbl := zT_tb (List.mem_append_right tables_1_1 (List.mem_append_left (tables_1_3 ++ tables_1_4) (List.mem_of_getElem? (i := 157) rfl)))
theorem q397 : (Jvm.Cond.lays "java/lang/IllegalArgumentException" "java/lang/Throwable" "suppressedExceptions" "Ljava/util/List;") ∈ zT := zT_in b397 rfl
theorem b398 : (Jvm.Cond.lays "java/lang/Throwable" "java/lang/Throwable" "suppressedExceptions" "Ljava/util/List;") ∈ lw_tbl := zT_tb (List.mem_append_right tables_1_1 (List.mem_append_left (tables_1_3 ++ tables_1_4) (List.mem_of_getElem? (i := 158) rfl)))
theorem q398 : (Jvm.Cond.lays "java/lang/Throwable" "java/lang/Throwable" "suppressedExceptions" "Ljava/util/List;") ∈ zT := zT_in b398 rfl
theorem b399 : (Jvm.Cond.lays "java/lang/IllegalArgumentException" "java/lang/Throwable" "detailMessage" "Ljava/lang/String;") ∈ lw_tbl := zT_tb (List.mem_append_right tables_1_1 (List.mem_append_left (tables_1_3 ++ tables_1_4) (List.mem_of_getElem? (i := 159) rfl)))
theorem q399 : (Jvm.Cond.lays "java/lang/IllegalArgumentException" "java/lang/Throwable" "detailMessage" "Ljava/lang/String;") ∈ zT := zT_in b399 rfl
theorem b400 : (Jvm.Cond.lays "java/lang/Throwable" "java/lang/Throwable" "detailMessage" "Ljava/lang/String;") ∈ lw_tbl := zT_tb (List.mem_append_right tables_1_1 (List.mem_append_left (tables_1_3 ++ tables_1_4) (List.mem_of_getElem? (i := 160) rfl)))
theorem q400 : (Jvm.Cond.lays "java/lang/Throwable" "java/lang/Throwable" "detailMessage" "Ljava/lang/String;") ∈ zT := zT_in b400 rfl
theorem b401 : (Jvm.Cond.lays "java/lang/IllegalArgumentException" "java/lang/Throwable" "backtrace" "Ljava/lang/Object;") ∈ lw_tbl := zT_tb (List.mem_append_right tables_1_1 (List.mem_append_left (tables_1_3 ++ tables_1_4) (List.mem_of_getElem? (i := 161) rfl)))
theorem q401 : (Jvm.Cond.lays "java/lang/IllegalArgumentException" "java/lang/Throwable" "backtrace" "Ljava/lang/Object;") ∈ zT := zT_in b401 rfl
theorem b402 : (Jvm.Cond.lays "java/lang/Throwable" "java/lang/Throwable" "backtrace" "Ljava/lang/Object;") ∈ lw_tbl := zT_tb (List.mem_append_right tables_1_1 (List.mem_append_left (tables_1_3 ++ tables_1_4) (List.mem_of_getElem? (i := 162) rfl)))
theorem q402 : (Jvm.Cond.lays "java/lang/Throwable" "java/lang/Throwable" "backtrace" "Ljava/lang/Object;") ∈ zT := zT_in b402 rfl
theorem b403 : (Jvm.Cond.fieldLink "java/lang/Throwable" (198 : Nat) "java/lang/Throwable" "backtrace" "Ljava/lang/Object;") ∈ lw_tbl := zT_tb (List.mem_append_right tables_1_1 (List.mem_append_left (tables_1_3 ++ tables_1_4) (List.mem_of_getElem? (i := 163) rfl)))
theorem q403 : (Jvm.Cond.fieldLink "java/lang/Throwable" (198 : Nat) "java/lang/Throwable" "backtrace" "Ljava/lang/Object;") ∈ zT := zT_in b403 rfl
theorem b404 : (Jvm.Cond.superclass "java/lang/Throwable" "java/lang/Object") ∈ lw_tbl := zT_tb (List.mem_append_right tables_1_1 (List.mem_append_left (tables_1_3 ++ tables_1_4) (List.mem_of_getElem? (i := 164) rfl)))
theorem b405 : (Jvm.Cond.instanceMethod ({ cls := "java/lang/Throwable", name := "<init>", desc := "()V" } : Jvm.MethodName)) ∈ lw_tbl := zT_tb (List.mem_append_right tables_1_1 (List.mem_append_left (tables_1_3 ++ tables_1_4) (List.mem_of_getElem? (i := 165) rfl)))
theorem q405 : (Jvm.Cond.instanceMethod ({ cls := "java/lang/Throwable", name := "<init>", desc := "()V" } : Jvm.MethodName)) ∈ zT := zT_in b405 rfl
theorem b406 : (Jvm.Cond.code ({ cls := "java/lang/Throwable", name := "<init>", desc := "()V" } : Jvm.MethodName) prog_16_method_1_code (1 : Nat) (Option.none : Option Jvm.ClassFile.FieldType)) ∈ lw_tbl := zT_tb (List.mem_append_right tables_1_1 (List.mem_append_left (tables_1_3 ++ tables_1_4) (List.mem_of_getElem? (i := 166) rfl)))
theorem q406 : (Jvm.Cond.code ({ cls := "java/lang/Throwable", name := "<init>", desc := "()V" } : Jvm.MethodName) prog_16_method_1_code (1 : Nat) (Option.none : Option Jvm.ClassFile.FieldType)) ∈ zT := zT_in b406 rfl
theorem b407 : (Jvm.Cond.methodLink "java/lang/Throwable" (1 : Nat) ({ cls := "java/lang/Object", name := "<init>", desc := "()V" } : Jvm.MethodName)) ∈ lw_tbl := zT_tb (List.mem_append_right tables_1_1 (List.mem_append_left (tables_1_3 ++ tables_1_4) (List.mem_of_getElem? (i := 167) rfl)))
theorem q407 : (Jvm.Cond.methodLink "java/lang/Throwable" (1 : Nat) ({ cls := "java/lang/Object", name := "<init>", desc := "()V" } : Jvm.MethodName)) ∈ zT := zT_in b407 rfl
theorem b408 : (Jvm.Cond.fieldLink "java/lang/Throwable" (13 : Nat) "java/lang/Throwable" "UNASSIGNED_STACK" "[Ljava/lang/StackTraceElement;") ∈ lw_tbl := zT_tb (List.mem_append_right tables_1_1 (List.mem_append_left (tables_1_3 ++ tables_1_4) (List.mem_of_getElem? (i := 168) rfl)))
theorem q408 : (Jvm.Cond.fieldLink "java/lang/Throwable" (13 : Nat) "java/lang/Throwable" "UNASSIGNED_STACK" "[Ljava/lang/StackTraceElement;") ∈ zT := zT_in b408 rfl
theorem b409 : (Jvm.Cond.laysStatic "java/lang/Throwable" "UNASSIGNED_STACK" "[Ljava/lang/StackTraceElement;") ∈ lw_tbl := zT_tb (List.mem_append_right tables_1_1 (List.mem_append_left (tables_1_3 ++ tables_1_4) (List.mem_of_getElem? (i := 169) rfl)))
theorem b410 : (Jvm.Cond.fieldLink "java/lang/Throwable" (20 : Nat) "java/lang/Throwable" "SUPPRESSED_SENTINEL" "Ljava/util/List;") ∈ lw_tbl := zT_tb (List.mem_append_right tables_1_1 (List.mem_append_left (tables_1_3 ++ tables_1_4) (List.mem_of_getElem? (i := 170) rfl)))
theorem q410 : (Jvm.Cond.fieldLink "java/lang/Throwable" (20 : Nat) "java/lang/Throwable" "SUPPRESSED_SENTINEL" "Ljava/util/List;") ∈ zT := zT_in b410 rfl
theorem b411 : (Jvm.Cond.laysStatic "java/lang/Throwable" "SUPPRESSED_SENTINEL" "Ljava/util/List;") ∈ lw_tbl := zT_tb (List.mem_append_right tables_1_1 (List.mem_append_left (tables_1_3 ++ tables_1_4) (List.mem_of_getElem? (i := 171) rfl)))
theorem b412 : (Jvm.Cond.methodLink "java/lang/Throwable" (27 : Nat) ({ cls := "java/lang/Throwable", name := "fillInStackTrace", desc := "()Ljava/lang/Throwable;" } : Jvm.MethodName)) ∈ lw_tbl := zT_tb (List.mem_append_right tables_1_1 (List.mem_append_left (tables_1_3 ++ tables_1_4) (List.mem_of_getElem? (i := 172) rfl)))
theorem q412 : (Jvm.Cond.methodLink "java/lang/Throwable" (27 : Nat) ({ cls := "java/lang/Throwable", name := "fillInStackTrace", desc := "()Ljava/lang/Throwable;" } : Jvm.MethodName)) ∈ zT := zT_in b412 rfl
theorem b413 : (Jvm.Cond.instanceMethod ({ cls := "java/lang/Throwable", name := "fillInStackTrace", desc := "()Ljava/lang/Throwable;" } : Jvm.MethodName)) ∈ lw_tbl := zT_tb (List.mem_append_right tables_1_1 (List.mem_append_left (tables_1_3 ++ tables_1_4) (List.mem_of_getElem? (i := 173) rfl)))
theorem q413 : (Jvm.Cond.instanceMethod ({ cls := "java/lang/Throwable", name := "fillInStackTrace", desc := "()Ljava/lang/Throwable;" } : Jvm.MethodName)) ∈ zT := zT_in b413 rfl
theorem b414 : (Jvm.Cond.sameMethod "java/lang/Throwable" "java/lang/Throwable" "fillInStackTrace" "()Ljava/lang/Throwable;") ∈ lw_tbl := zT_tb (List.mem_append_right tables_1_1 (List.mem_append_left (tables_1_3 ++ tables_1_4) (List.mem_of_getElem? (i := 174) rfl)))
theorem b415 : (Jvm.Cond.codeSync ({ cls := "java/lang/Throwable", name := "fillInStackTrace", desc := "()Ljava/lang/Throwable;" } : Jvm.MethodName) prog_16_method_18_code (1 : Nat) (Option.some (Jvm.ClassFile.FieldType.object "java/lang/Throwable"))) ∈ lw_tbl := zT_tb (List.mem_append_right tables_1_1 (List.mem_append_left (tables_1_3 ++ tables_1_4) (List.mem_of_getElem? (i := 175) rfl)))
theorem b416 : (Jvm.Cond.methodLink "java/lang/Throwable" (202 : Nat) ({ cls := "java/lang/Throwable", name := "fillInStackTrace", desc := "(I)Ljava/lang/Throwable;" } : Jvm.MethodName)) ∈ lw_tbl := zT_tb (List.mem_append_right tables_1_1 (List.mem_append_left (tables_1_3 ++ tables_1_4) (List.mem_of_getElem? (i := 176) rfl)))
theorem q416 : (Jvm.Cond.methodLink "java/lang/Throwable" (202 : Nat) ({ cls := "java/lang/Throwable", name := "fillInStackTrace", desc := "(I)Ljava/lang/Throwable;" } : Jvm.MethodName)) ∈ zT := zT_in b416 rfl
theorem b417 : (Jvm.Cond.privateMethod ({ cls := "java/lang/Throwable", name := "fillInStackTrace", desc := "(I)Ljava/lang/Throwable;" } : Jvm.MethodName)) ∈ lw_tbl := zT_tb (List.mem_append_right tables_1_1 (List.mem_append_left (tables_1_3 ++ tables_1_4) (List.mem_of_getElem? (i := 177) rfl)))
theorem b418 : (Jvm.Cond.instanceMethod ({ cls := "java/lang/Throwable", name := "fillInStackTrace", desc := "(I)Ljava/lang/Throwable;" } : Jvm.MethodName)) ∈ lw_tbl := zT_tb (List.mem_append_right tables_1_1 (List.mem_append_left (tables_1_3 ++ tables_1_4) (List.mem_of_getElem? (i := 178) rfl)))
theorem q418 : (Jvm.Cond.instanceMethod ({ cls := "java/lang/Throwable", name := "fillInStackTrace", desc := "(I)Ljava/lang/Throwable;" } : Jvm.MethodName)) ∈ zT := zT_in b418 rfl
theorem b419 : (Jvm.Cond.instantiable "java/lang/Throwable" (6 : Nat)) ∈ lw_tbl := zT_tb (List.mem_append_right tables_1_1 (List.mem_append_left (tables_1_3 ++ tables_1_4) (List.mem_of_getElem? (i := 179) rfl)))
theorem q419 : (Jvm.Cond.instantiable "java/lang/Throwable" (6 : Nat)) ∈ zT := zT_in b419 rfl
theorem b420 : (Jvm.Cond.native ({ cls := "java/lang/Throwable", name := "fillInStackTrace", desc := "(I)Ljava/lang/Throwable;" } : Jvm.MethodName)) ∈ lw_tbl := zT_tb (List.mem_append_right tables_1_1 (List.mem_append_left (tables_1_3 ++ tables_1_4) (List.mem_of_getElem? (i := 180) rfl)))
theorem b421 : (Jvm.Cond.methodLink "DigitChip" (33 : Nat) ({ cls := "java/lang/IllegalArgumentException", name := "<init>", desc := "()V" } : Jvm.MethodName)) ∈ lw_tbl := zT_tb (List.mem_append_right tables_1_1 (List.mem_append_left (tables_1_3 ++ tables_1_4) (List.mem_of_getElem? (i := 181) rfl)))
theorem q421 : (Jvm.Cond.methodLink "DigitChip" (33 : Nat) ({ cls := "java/lang/IllegalArgumentException", name := "<init>", desc := "()V" } : Jvm.MethodName)) ∈ zT := zT_in b421 rfl
theorem b422 : (Jvm.Cond.instanceMethod ({ cls := "java/lang/IllegalArgumentException", name := "<init>", desc := "()V" } : Jvm.MethodName)) ∈ lw_tbl := zT_tb (List.mem_append_right tables_1_1 (List.mem_append_left (tables_1_3 ++ tables_1_4) (List.mem_of_getElem? (i := 182) rfl)))
theorem q422 : (Jvm.Cond.instanceMethod ({ cls := "java/lang/IllegalArgumentException", name := "<init>", desc := "()V" } : Jvm.MethodName)) ∈ zT := zT_in b422 rfl
theorem b423 : (Jvm.Cond.code ({ cls := "java/lang/IllegalArgumentException", name := "<init>", desc := "()V" } : Jvm.MethodName) prog_10_method_1_code (1 : Nat) (Option.none : Option Jvm.ClassFile.FieldType)) ∈ lw_tbl := zT_tb (List.mem_append_right tables_1_1 (List.mem_append_left (tables_1_3 ++ tables_1_4) (List.mem_of_getElem? (i := 183) rfl)))
theorem q423 : (Jvm.Cond.code ({ cls := "java/lang/IllegalArgumentException", name := "<init>", desc := "()V" } : Jvm.MethodName) prog_10_method_1_code (1 : Nat) (Option.none : Option Jvm.ClassFile.FieldType)) ∈ zT := zT_in b423 rfl
theorem b424 : (Jvm.Cond.methodLink "java/lang/IllegalArgumentException" (1 : Nat) ({ cls := "java/lang/RuntimeException", name := "<init>", desc := "()V" } : Jvm.MethodName)) ∈ lw_tbl := zT_tb (List.mem_append_right tables_1_1 (List.mem_append_left (tables_1_3 ++ tables_1_4) (List.mem_of_getElem? (i := 184) rfl)))
theorem q424 : (Jvm.Cond.methodLink "java/lang/IllegalArgumentException" (1 : Nat) ({ cls := "java/lang/RuntimeException", name := "<init>", desc := "()V" } : Jvm.MethodName)) ∈ zT := zT_in b424 rfl
theorem b425 : (Jvm.Cond.instanceMethod ({ cls := "java/lang/RuntimeException", name := "<init>", desc := "()V" } : Jvm.MethodName)) ∈ lw_tbl := zT_tb (List.mem_append_right tables_1_1 (List.mem_append_left (tables_1_3 ++ tables_1_4) (List.mem_of_getElem? (i := 185) rfl)))
theorem q425 : (Jvm.Cond.instanceMethod ({ cls := "java/lang/RuntimeException", name := "<init>", desc := "()V" } : Jvm.MethodName)) ∈ zT := zT_in b425 rfl
theorem b426 : (Jvm.Cond.code ({ cls := "java/lang/RuntimeException", name := "<init>", desc := "()V" } : Jvm.MethodName) prog_12_method_1_code (1 : Nat) (Option.none : Option Jvm.ClassFile.FieldType)) ∈ lw_tbl := zT_tb (List.mem_append_right tables_1_1 (List.mem_append_left (tables_1_3 ++ tables_1_4) (List.mem_of_getElem? (i := 186) rfl)))
theorem q426 : (Jvm.Cond.code ({ cls := "java/lang/RuntimeException", name := "<init>", desc := "()V" } : Jvm.MethodName) prog_12_method_1_code (1 : Nat) (Option.none : Option Jvm.ClassFile.FieldType)) ∈ zT := zT_in b426 rfl
theorem b427 : (Jvm.Cond.methodLink "java/lang/RuntimeException" (1 : Nat) ({ cls := "java/lang/Exception", name := "<init>", desc := "()V" } : Jvm.MethodName)) ∈ lw_tbl := zT_tb (List.mem_append_right tables_1_1 (List.mem_append_left (tables_1_3 ++ tables_1_4) (List.mem_of_getElem? (i := 187) rfl)))
theorem q427 : (Jvm.Cond.methodLink "java/lang/RuntimeException" (1 : Nat) ({ cls := "java/lang/Exception", name := "<init>", desc := "()V" } : Jvm.MethodName)) ∈ zT := zT_in b427 rfl
theorem b428 : (Jvm.Cond.instanceMethod ({ cls := "java/lang/Exception", name := "<init>", desc := "()V" } : Jvm.MethodName)) ∈ lw_tbl := zT_tb (List.mem_append_right tables_1_1 (List.mem_append_left (tables_1_3 ++ tables_1_4) (List.mem_of_getElem? (i := 188) rfl)))
theorem q428 : (Jvm.Cond.instanceMethod ({ cls := "java/lang/Exception", name := "<init>", desc := "()V" } : Jvm.MethodName)) ∈ zT := zT_in b428 rfl
theorem b429 : (Jvm.Cond.code ({ cls := "java/lang/Exception", name := "<init>", desc := "()V" } : Jvm.MethodName) prog_9_method_1_code (1 : Nat) (Option.none : Option Jvm.ClassFile.FieldType)) ∈ lw_tbl := zT_tb (List.mem_append_right tables_1_1 (List.mem_append_left (tables_1_3 ++ tables_1_4) (List.mem_of_getElem? (i := 189) rfl)))
theorem q429 : (Jvm.Cond.code ({ cls := "java/lang/Exception", name := "<init>", desc := "()V" } : Jvm.MethodName) prog_9_method_1_code (1 : Nat) (Option.none : Option Jvm.ClassFile.FieldType)) ∈ zT := zT_in b429 rfl
theorem b430 : (Jvm.Cond.methodLink "java/lang/Exception" (1 : Nat) ({ cls := "java/lang/Throwable", name := "<init>", desc := "()V" } : Jvm.MethodName)) ∈ lw_tbl := zT_tb (List.mem_append_right tables_1_1 (List.mem_append_left (tables_1_3 ++ tables_1_4) (List.mem_of_getElem? (i := 190) rfl)))
theorem q430 : (Jvm.Cond.methodLink "java/lang/Exception" (1 : Nat) ({ cls := "java/lang/Throwable", name := "<init>", desc := "()V" } : Jvm.MethodName)) ∈ zT := zT_in b430 rfl
theorem b431 : (Jvm.Cond.fieldLink "java/lang/Throwable" (198 : Nat) "java/lang/Throwable" "backtrace" "Ljava/lang/Object;") ∈ lw_tbl := zT_tb (List.mem_append_right tables_1_1 (List.mem_append_left (tables_1_3 ++ tables_1_4) (List.mem_of_getElem? (i := 191) rfl)))
theorem q431 : (Jvm.Cond.fieldLink "java/lang/Throwable" (198 : Nat) "java/lang/Throwable" "backtrace" "Ljava/lang/Object;") ∈ zT := zT_in b431 rfl
theorem b432 : (Jvm.Cond.fieldLink "java/lang/Throwable" (7 : Nat) "java/lang/Throwable" "cause" "Ljava/lang/Throwable;") ∈ lw_tbl := zT_tb (List.mem_append_right tables_1_1 (List.mem_append_left (tables_1_3 ++ tables_1_4) (List.mem_of_getElem? (i := 192) rfl)))
theorem q432 : (Jvm.Cond.fieldLink "java/lang/Throwable" (7 : Nat) "java/lang/Throwable" "cause" "Ljava/lang/Throwable;") ∈ zT := zT_in b432 rfl
theorem b433 : (Jvm.Cond.fieldLink "java/lang/Throwable" (17 : Nat) "java/lang/Throwable" "stackTrace" "[Ljava/lang/StackTraceElement;") ∈ lw_tbl := zT_tb (List.mem_append_right tables_1_1 (List.mem_append_left (tables_1_3 ++ tables_1_4) (List.mem_of_getElem? (i := 193) rfl)))
theorem q433 : (Jvm.Cond.fieldLink "java/lang/Throwable" (17 : Nat) "java/lang/Throwable" "stackTrace" "[Ljava/lang/StackTraceElement;") ∈ zT := zT_in b433 rfl
theorem b434 : (Jvm.Cond.fieldLink "java/lang/Throwable" (24 : Nat) "java/lang/Throwable" "suppressedExceptions" "Ljava/util/List;") ∈ lw_tbl := zT_tb (List.mem_append_right tables_1_1 (List.mem_append_left (tables_1_3 ++ tables_1_4) (List.mem_of_getElem? (i := 194) rfl)))
theorem q434 : (Jvm.Cond.fieldLink "java/lang/Throwable" (24 : Nat) "java/lang/Throwable" "suppressedExceptions" "Ljava/util/List;") ∈ zT := zT_in b434 rfl
theorem b435 : (Jvm.Cond.soleField "java/lang/Throwable" "backtrace") ∈ lw_tbl := zT_tb (List.mem_append_right tables_1_1 (List.mem_append_left (tables_1_3 ++ tables_1_4) (List.mem_of_getElem? (i := 195) rfl)))
theorem b436 : (Jvm.Cond.soleField "java/lang/Throwable" "detailMessage") ∈ lw_tbl := zT_tb (List.mem_append_right tables_1_1 (List.mem_append_left (tables_1_3 ++ tables_1_4) (List.mem_of_getElem? (i := 196) rfl)))
theorem b437 : (Jvm.Cond.soleField "java/lang/Throwable" "cause") ∈ lw_tbl := zT_tb (List.mem_append_right tables_1_1 (List.mem_append_left (tables_1_3 ++ tables_1_4) (List.mem_of_getElem? (i := 197) rfl)))
theorem b438 : (Jvm.Cond.soleField "java/lang/Throwable" "stackTrace") ∈ lw_tbl := zT_tb (List.mem_append_right tables_1_1 (List.mem_append_left (tables_1_3 ++ tables_1_4) (List.mem_of_getElem? (i := 198) rfl)))
theorem b439 : (Jvm.Cond.lays "java/lang/IllegalArgumentException" "java/lang/Throwable" "depth" "I") ∈ lw_tbl := zT_tb (List.mem_append_right tables_1_1 (List.mem_append_left (tables_1_3 ++ tables_1_4) (List.mem_of_getElem? (i := 199) rfl)))
theorem q439 : (Jvm.Cond.lays "java/lang/IllegalArgumentException" "java/lang/Throwable" "depth" "I") ∈ zT := zT_in b439 rfl
theorem b440 : (Jvm.Cond.soleField "java/lang/Throwable" "depth") ∈ lw_tbl := zT_tb (List.mem_append_right tables_1_1 (List.mem_append_left (tables_1_3 ++ tables_1_4) (List.mem_of_getElem? (i := 200) rfl)))
theorem b441 : (Jvm.Cond.soleField "java/lang/Throwable" "suppressedExceptions") ∈ lw_tbl := zT_tb (List.mem_append_right tables_1_1 (List.mem_append_left (tables_1_3 ++ tables_1_4) (List.mem_of_getElem? (i := 201) rfl)))
theorem b442 : (Jvm.Cond.superclass "java/lang/IllegalArgumentException" "java/lang/RuntimeException") ∈ lw_tbl := zT_tb (List.mem_append_right tables_1_1 (List.mem_append_left (tables_1_3 ++ tables_1_4) (List.mem_of_getElem? (i := 202) rfl)))
theorem b443 : (Jvm.Cond.methodLink "DigitChip" (42 : Nat) ({ cls := "DigitChip$Processor", name := "load", desc := "([II)V" } : Jvm.MethodName)) ∈ lw_tbl := zT_tb (List.mem_append_right tables_1_1 (List.mem_append_left (tables_1_3 ++ tables_1_4) (List.mem_of_getElem? (i := 203) rfl)))
theorem q443 : (Jvm.Cond.methodLink "DigitChip" (42 : Nat) ({ cls := "DigitChip$Processor", name := "load", desc := "([II)V" } : Jvm.MethodName)) ∈ zT := zT_in b443 rfl
theorem b444 : (Jvm.Cond.instanceMethod ({ cls := "DigitChip$Processor", name := "load", desc := "([II)V" } : Jvm.MethodName)) ∈ lw_tbl := zT_tb (List.mem_append_right tables_1_1 (List.mem_append_left (tables_1_3 ++ tables_1_4) (List.mem_of_getElem? (i := 204) rfl)))
theorem q444 : (Jvm.Cond.instanceMethod ({ cls := "DigitChip$Processor", name := "load", desc := "([II)V" } : Jvm.MethodName)) ∈ zT := zT_in b444 rfl
theorem b445 : (Jvm.Cond.selects "DigitChip$Processor" ({ cls := "DigitChip$Processor", name := "load", desc := "([II)V" } : Jvm.MethodName) ({ cls := "DigitChip$Processor", name := "load", desc := "([II)V" } : Jvm.MethodName)) ∈ lw_tbl := zT_tb (List.mem_append_right tables_1_1 (List.mem_append_left (tables_1_3 ++ tables_1_4) (List.mem_of_getElem? (i := 205) rfl)))
theorem q445 : (Jvm.Cond.selects "DigitChip$Processor" ({ cls := "DigitChip$Processor", name := "load", desc := "([II)V" } : Jvm.MethodName) ({ cls := "DigitChip$Processor", name := "load", desc := "([II)V" } : Jvm.MethodName)) ∈ zT := zT_in b445 rfl
theorem b446 : (Jvm.Cond.code ({ cls := "DigitChip$Processor", name := "load", desc := "([II)V" } : Jvm.MethodName) prog_3_method_2_code (4 : Nat) (Option.none : Option Jvm.ClassFile.FieldType)) ∈ lw_tbl := zT_tb (List.mem_append_right tables_1_1 (List.mem_append_left (tables_1_3 ++ tables_1_4) (List.mem_of_getElem? (i := 206) rfl)))
theorem q446 : (Jvm.Cond.code ({ cls := "DigitChip$Processor", name := "load", desc := "([II)V" } : Jvm.MethodName) prog_3_method_2_code (4 : Nat) (Option.none : Option Jvm.ClassFile.FieldType)) ∈ zT := zT_in b446 rfl
theorem b447 : (Jvm.Cond.methodLink "DigitChipLaw" (59 : Nat) ({ cls := "DigitChipLaw", name := "run", desc := "(LDigitChip;I[J)I" } : Jvm.MethodName)) ∈ lw_tbl := zT_tb (List.mem_append_right tables_1_1 (List.mem_append_left (tables_1_3 ++ tables_1_4) (List.mem_of_getElem? (i := 207) rfl)))
theorem q447 : (Jvm.Cond.methodLink "DigitChipLaw" (59 : Nat) ({ cls := "DigitChipLaw", name := "run", desc := "(LDigitChip;I[J)I" } : Jvm.MethodName)) ∈ zT := zT_in b447 rfl
theorem b448 : (Jvm.Cond.static ({ cls := "DigitChipLaw", name := "run", desc := "(LDigitChip;I[J)I" } : Jvm.MethodName)) ∈ lw_tbl := zT_tb (List.mem_append_right tables_1_1 (List.mem_append_left (tables_1_3 ++ tables_1_4) (List.mem_of_getElem? (i := 208) rfl)))
theorem q448 : (Jvm.Cond.static ({ cls := "DigitChipLaw", name := "run", desc := "(LDigitChip;I[J)I" } : Jvm.MethodName)) ∈ zT := zT_in b448 rfl
theorem b449 : (Jvm.Cond.codeWith ({ cls := "DigitChipLaw", name := "run", desc := "(LDigitChip;I[J)I" } : Jvm.MethodName) method_4_code (4 : Nat) (Option.some Jvm.ClassFile.FieldType.int) [((0 : Nat), (9 : Nat), (12 : Nat), (13 : Nat))]) ∈ lw_tbl := zT_tb (List.mem_append_right tables_1_1 (List.mem_append_left (tables_1_3 ++ tables_1_4) (List.mem_of_getElem? (i := 209) rfl)))
theorem q449 : (Jvm.Cond.codeWith ({ cls := "DigitChipLaw", name := "run", desc := "(LDigitChip;I[J)I" } : Jvm.MethodName) method_4_code (4 : Nat) (Option.some Jvm.ClassFile.FieldType.int) [((0 : Nat), (9 : Nat), (12 : Nat), (13 : Nat))]) ∈ zT := zT_in b449 rfl
theorem b450 : (Jvm.Cond.methodLink "DigitChipLaw" (15 : Nat) ({ cls := "DigitChip", name := "run", desc := "(I)I" } : Jvm.MethodName)) ∈ lw_tbl := zT_tb (List.mem_append_right tables_1_1 (List.mem_append_left (tables_1_3 ++ tables_1_4) (List.mem_of_getElem? (i := 210) rfl)))
theorem q450 : (Jvm.Cond.methodLink "DigitChipLaw" (15 : Nat) ({ cls := "DigitChip", name := "run", desc := "(I)I" } : Jvm.MethodName)) ∈ zT := zT_in b450 rfl
theorem b451 : (Jvm.Cond.instanceMethod ({ cls := "DigitChip", name := "run", desc := "(I)I" } : Jvm.MethodName)) ∈ lw_tbl := zT_tb (List.mem_append_right tables_1_1 (List.mem_append_left (tables_1_3 ++ tables_1_4) (List.mem_of_getElem? (i := 211) rfl)))
theorem q451 : (Jvm.Cond.instanceMethod ({ cls := "DigitChip", name := "run", desc := "(I)I" } : Jvm.MethodName)) ∈ zT := zT_in b451 rfl
theorem b452 : (Jvm.Cond.selects "DigitChip" ({ cls := "DigitChip", name := "run", desc := "(I)I" } : Jvm.MethodName) ({ cls := "DigitChip", name := "run", desc := "(I)I" } : Jvm.MethodName)) ∈ lw_tbl := zT_tb (List.mem_append_right tables_1_1 (List.mem_append_left (tables_1_3 ++ tables_1_4) (List.mem_of_getElem? (i := 212) rfl)))
theorem q452 : (Jvm.Cond.selects "DigitChip" ({ cls := "DigitChip", name := "run", desc := "(I)I" } : Jvm.MethodName) ({ cls := "DigitChip", name := "run", desc := "(I)I" } : Jvm.MethodName)) ∈ zT := zT_in b452 rfl
theorem b453 : (Jvm.Cond.code ({ cls := "DigitChip", name := "run", desc := "(I)I" } : Jvm.MethodName) prog_1_method_9_code (2 : Nat) (Option.some Jvm.ClassFile.FieldType.int)) ∈ lw_tbl := zT_tb (List.mem_append_right tables_1_1 (List.mem_append_left (tables_1_3 ++ tables_1_4) (List.mem_of_getElem? (i := 213) rfl)))
theorem q453 : (Jvm.Cond.code ({ cls := "DigitChip", name := "run", desc := "(I)I" } : Jvm.MethodName) prog_1_method_9_code (2 : Nat) (Option.some Jvm.ClassFile.FieldType.int)) ∈ zT := zT_in b453 rfl
theorem b454 : (Jvm.Cond.methodLink "DigitChip" (65 : Nat) ({ cls := "DigitChip$Processor", name := "doWords", desc := "(I)I" } : Jvm.MethodName)) ∈ lw_tbl := zT_tb (List.mem_append_right tables_1_1 (List.mem_append_left (tables_1_3 ++ tables_1_4) (List.mem_of_getElem? (i := 214) rfl)))
theorem q454 : (Jvm.Cond.methodLink "DigitChip" (65 : Nat) ({ cls := "DigitChip$Processor", name := "doWords", desc := "(I)I" } : Jvm.MethodName)) ∈ zT := zT_in b454 rfl
theorem b455 : (Jvm.Cond.instanceMethod ({ cls := "DigitChip$Processor", name := "doWords", desc := "(I)I" } : Jvm.MethodName)) ∈ lw_tbl := zT_tb (List.mem_append_right tables_1_1 (List.mem_append_left (tables_1_3 ++ tables_1_4) (List.mem_of_getElem? (i := 215) rfl)))
theorem q455 : (Jvm.Cond.instanceMethod ({ cls := "DigitChip$Processor", name := "doWords", desc := "(I)I" } : Jvm.MethodName)) ∈ zT := zT_in b455 rfl
theorem b456 : (Jvm.Cond.selects "DigitChip$Processor" ({ cls := "DigitChip$Processor", name := "doWords", desc := "(I)I" } : Jvm.MethodName) ({ cls := "DigitChip$Processor", name := "doWords", desc := "(I)I" } : Jvm.MethodName)) ∈ lw_tbl := zT_tb (List.mem_append_right tables_1_1 (List.mem_append_left (tables_1_3 ++ tables_1_4) (List.mem_of_getElem? (i := 216) rfl)))
theorem q456 : (Jvm.Cond.selects "DigitChip$Processor" ({ cls := "DigitChip$Processor", name := "doWords", desc := "(I)I" } : Jvm.MethodName) ({ cls := "DigitChip$Processor", name := "doWords", desc := "(I)I" } : Jvm.MethodName)) ∈ zT := zT_in b456 rfl
theorem b457 : (Jvm.Cond.code ({ cls := "DigitChip$Processor", name := "doWords", desc := "(I)I" } : Jvm.MethodName) prog_3_method_3_code (3 : Nat) (Option.some Jvm.ClassFile.FieldType.int)) ∈ lw_tbl := zT_tb (List.mem_append_right tables_1_1 (List.mem_append_left (tables_1_3 ++ tables_1_4) (List.mem_of_getElem? (i := 217) rfl)))
theorem q457 : (Jvm.Cond.code ({ cls := "DigitChip$Processor", name := "doWords", desc := "(I)I" } : Jvm.MethodName) prog_3_method_3_code (3 : Nat) (Option.some Jvm.ClassFile.FieldType.int)) ∈ zT := zT_in b457 rfl
theorem b458 : (Jvm.Cond.methodLink "DigitChip$Processor" (49 : Nat) ({ cls := "DigitChip$Processor", name := "doWord", desc := "(I)V" } : Jvm.MethodName)) ∈ lw_tbl := zT_tb (List.mem_append_right tables_1_1 (List.mem_append_left (tables_1_3 ++ tables_1_4) (List.mem_of_getElem? (i := 218) rfl)))
theorem q458 : (Jvm.Cond.methodLink "DigitChip$Processor" (49 : Nat) ({ cls := "DigitChip$Processor", name := "doWord", desc := "(I)V" } : Jvm.MethodName)) ∈ zT := zT_in b458 rfl
theorem b459 : (Jvm.Cond.privateMethod ({ cls := "DigitChip$Processor", name := "doWord", desc := "(I)V" } : Jvm.MethodName)) ∈ lw_tbl := zT_tb (List.mem_append_right tables_1_1 (List.mem_append_left (tables_1_3 ++ tables_1_4) (List.mem_of_getElem? (i := 219) rfl)))
theorem b460 : (Jvm.Cond.instanceMethod ({ cls := "DigitChip$Processor", name := "doWord", desc := "(I)V" } : Jvm.MethodName)) ∈ lw_tbl := zT_tb (List.mem_append_right tables_1_1 (List.mem_append_left (tables_1_3 ++ tables_1_4) (List.mem_of_getElem? (i := 220) rfl)))
theorem q460 : (Jvm.Cond.instanceMethod ({ cls := "DigitChip$Processor", name := "doWord", desc := "(I)V" } : Jvm.MethodName)) ∈ zT := zT_in b460 rfl
theorem b461 : (Jvm.Cond.code ({ cls := "DigitChip$Processor", name := "doWord", desc := "(I)V" } : Jvm.MethodName) prog_3_method_4_code (4 : Nat) (Option.none : Option Jvm.ClassFile.FieldType)) ∈ lw_tbl := zT_tb (List.mem_append_right tables_1_1 (List.mem_append_left (tables_1_3 ++ tables_1_4) (List.mem_of_getElem? (i := 221) rfl)))
theorem q461 : (Jvm.Cond.code ({ cls := "DigitChip$Processor", name := "doWord", desc := "(I)V" } : Jvm.MethodName) prog_3_method_4_code (4 : Nat) (Option.none : Option Jvm.ClassFile.FieldType)) ∈ zT := zT_in b461 rfl
theorem b462 : (Jvm.Cond.methodLink "DigitChip$Processor" (53 : Nat) ({ cls := "DigitChip$Processor", name := "doPlain", desc := "(II)V" } : Jvm.MethodName)) ∈ lw_tbl := zT_tb (List.mem_append_right tables_1_1 (List.mem_append_left (tables_1_3 ++ tables_1_4) (List.mem_of_getElem? (i := 222) rfl)))
theorem q462 : (Jvm.Cond.methodLink "DigitChip$Processor" (53 : Nat) ({ cls := "DigitChip$Processor", name := "doPlain", desc := "(II)V" } : Jvm.MethodName)) ∈ zT := zT_in b462 rfl
theorem b463 : (Jvm.Cond.privateMethod ({ cls := "DigitChip$Processor", name := "doPlain", desc := "(II)V" } : Jvm.MethodName)) ∈ lw_tbl := zT_tb (List.mem_append_right tables_1_1 (List.mem_append_left (tables_1_3 ++ tables_1_4) (List.mem_of_getElem? (i := 223) rfl)))
theorem b464 : (Jvm.Cond.instanceMethod ({ cls := "DigitChip$Processor", name := "doPlain", desc := "(II)V" } : Jvm.MethodName)) ∈ lw_tbl := zT_tb (List.mem_append_right tables_1_1 (List.mem_append_left (tables_1_3 ++ tables_1_4) (List.mem_of_getElem? (i := 224) rfl)))
theorem q464 : (Jvm.Cond.instanceMethod ({ cls := "DigitChip$Processor", name := "doPlain", desc := "(II)V" } : Jvm.MethodName)) ∈ zT := zT_in b464 rfl
theorem b465 : (Jvm.Cond.code ({ cls := "DigitChip$Processor", name := "doPlain", desc := "(II)V" } : Jvm.MethodName) prog_3_method_5_code (3 : Nat) (Option.none : Option Jvm.ClassFile.FieldType)) ∈ lw_tbl := zT_tb (List.mem_append_right tables_1_1 (List.mem_append_left (tables_1_3 ++ tables_1_4) (List.mem_of_getElem? (i := 225) rfl)))
theorem q465 : (Jvm.Cond.code ({ cls := "DigitChip$Processor", name := "doPlain", desc := "(II)V" } : Jvm.MethodName) prog_3_method_5_code (3 : Nat) (Option.none : Option Jvm.ClassFile.FieldType)) ∈ zT := zT_in b465 rfl
theorem b466 : (Jvm.Cond.methodLink "DigitChip$Processor" (68 : Nat) ({ cls := "DigitChip$Processor", name := "setStatus", desc := "(I)V" } : Jvm.MethodName)) ∈ lw_tbl := zT_tb (List.mem_append_right tables_1_1 (List.mem_append_left (tables_1_3 ++ tables_1_4) (List.mem_of_getElem? (i := 226) rfl)))
theorem q466 : (Jvm.Cond.methodLink "DigitChip$Processor" (68 : Nat) ({ cls := "DigitChip$Processor", name := "setStatus", desc := "(I)V" } : Jvm.MethodName)) ∈ zT := zT_in b466 rfl
theorem b467 : (Jvm.Cond.privateMethod ({ cls := "DigitChip$Processor", name := "setStatus", desc := "(I)V" } : Jvm.MethodName)) ∈ lw_tbl := zT_tb (List.mem_append_right tables_1_1 (List.mem_append_left (tables_1_3 ++ tables_1_4) (List.mem_of_getElem? (i := 227) rfl)))
theorem b468 : (Jvm.Cond.instanceMethod ({ cls := "DigitChip$Processor", name := "setStatus", desc := "(I)V" } : Jvm.MethodName)) ∈ lw_tbl := zT_tb (List.mem_append_right tables_1_1 (List.mem_append_left (tables_1_3 ++ tables_1_4) (List.mem_of_getElem? (i := 228) rfl)))
theorem q468 : (Jvm.Cond.instanceMethod ({ cls := "DigitChip$Processor", name := "setStatus", desc := "(I)V" } : Jvm.MethodName)) ∈ zT := zT_in b468 rfl
theorem b469 : (Jvm.Cond.code ({ cls := "DigitChip$Processor", name := "setStatus", desc := "(I)V" } : Jvm.MethodName) prog_3_method_6_code (2 : Nat) (Option.none : Option Jvm.ClassFile.FieldType)) ∈ lw_tbl := zT_tb (List.mem_append_right tables_1_1 (List.mem_append_left (tables_1_3 ++ tables_1_4) (List.mem_of_getElem? (i := 229) rfl)))
theorem q469 : (Jvm.Cond.code ({ cls := "DigitChip$Processor", name := "setStatus", desc := "(I)V" } : Jvm.MethodName) prog_3_method_6_code (2 : Nat) (Option.none : Option Jvm.ClassFile.FieldType)) ∈ zT := zT_in b469 rfl
theorem b470 : (Jvm.Cond.methodLink "DigitChip$Processor" (71 : Nat) ({ cls := "DigitChip$Processor", name := "clearStatus", desc := "(I)V" } : Jvm.MethodName)) ∈ lw_tbl := zT_tb (List.mem_append_right tables_1_1 (List.mem_append_left (tables_1_3 ++ tables_1_4) (List.mem_of_getElem? (i := 230) rfl)))
theorem q470 : (Jvm.Cond.methodLink "DigitChip$Processor" (71 : Nat) ({ cls := "DigitChip$Processor", name := "clearStatus", desc := "(I)V" } : Jvm.MethodName)) ∈ zT := zT_in b470 rfl
theorem b471 : (Jvm.Cond.privateMethod ({ cls := "DigitChip$Processor", name := "clearStatus", desc := "(I)V" } : Jvm.MethodName)) ∈ lw_tbl := zT_tb (List.mem_append_right tables_1_1 (List.mem_append_left (tables_1_3 ++ tables_1_4) (List.mem_of_getElem? (i := 231) rfl)))
theorem b472 : (Jvm.Cond.instanceMethod ({ cls := "DigitChip$Processor", name := "clearStatus", desc := "(I)V" } : Jvm.MethodName)) ∈ lw_tbl := zT_tb (List.mem_append_right tables_1_1 (List.mem_append_left (tables_1_3 ++ tables_1_4) (List.mem_of_getElem? (i := 232) rfl)))
theorem q472 : (Jvm.Cond.instanceMethod ({ cls := "DigitChip$Processor", name := "clearStatus", desc := "(I)V" } : Jvm.MethodName)) ∈ zT := zT_in b472 rfl
theorem b473 : (Jvm.Cond.code ({ cls := "DigitChip$Processor", name := "clearStatus", desc := "(I)V" } : Jvm.MethodName) prog_3_method_7_code (2 : Nat) (Option.none : Option Jvm.ClassFile.FieldType)) ∈ lw_tbl := zT_tb (List.mem_append_right tables_1_1 (List.mem_append_left (tables_1_3 ++ tables_1_4) (List.mem_of_getElem? (i := 233) rfl)))
theorem q473 : (Jvm.Cond.code ({ cls := "DigitChip$Processor", name := "clearStatus", desc := "(I)V" } : Jvm.MethodName) prog_3_method_7_code (2 : Nat) (Option.none : Option Jvm.ClassFile.FieldType)) ∈ zT := zT_in b473 rfl
theorem b474 : (Jvm.Cond.methodLink "DigitChip$Processor" (74 : Nat) ({ cls := "DigitChip$Processor", name := "hasStatus", desc := "(I)Z" } : Jvm.MethodName)) ∈ lw_tbl := zT_tb (List.mem_append_right tables_1_1 (List.mem_append_left (tables_1_3 ++ tables_1_4) (List.mem_of_getElem? (i := 234) rfl)))
theorem q474 : (Jvm.Cond.methodLink "DigitChip$Processor" (74 : Nat) ({ cls := "DigitChip$Processor", name := "hasStatus", desc := "(I)Z" } : Jvm.MethodName)) ∈ zT := zT_in b474 rfl
theorem b475 : (Jvm.Cond.privateMethod ({ cls := "DigitChip$Processor", name := "hasStatus", desc := "(I)Z" } : Jvm.MethodName)) ∈ lw_tbl := zT_tb (List.mem_append_right tables_1_1 (List.mem_append_left (tables_1_3 ++ tables_1_4) (List.mem_of_getElem? (i := 235) rfl)))
theorem b476 : (Jvm.Cond.instanceMethod ({ cls := "DigitChip$Processor", name := "hasStatus", desc := "(I)Z" } : Jvm.MethodName)) ∈ lw_tbl := zT_tb (List.mem_append_right tables_1_1 (List.mem_append_left (tables_1_3 ++ tables_1_4) (List.mem_of_getElem? (i := 236) rfl)))
theorem q476 : (Jvm.Cond.instanceMethod ({ cls := "DigitChip$Processor", name := "hasStatus", desc := "(I)Z" } : Jvm.MethodName)) ∈ zT := zT_in b476 rfl
theorem b477 : (Jvm.Cond.code ({ cls := "DigitChip$Processor", name := "hasStatus", desc := "(I)Z" } : Jvm.MethodName) prog_3_method_8_code (2 : Nat) (Option.some Jvm.ClassFile.FieldType.boolean)) ∈ lw_tbl := zT_tb (List.mem_append_right tables_1_1 (List.mem_append_left (tables_1_3 ++ tables_1_4) (List.mem_of_getElem? (i := 237) rfl)))
theorem q477 : (Jvm.Cond.code ({ cls := "DigitChip$Processor", name := "hasStatus", desc := "(I)Z" } : Jvm.MethodName) prog_3_method_8_code (2 : Nat) (Option.some Jvm.ClassFile.FieldType.boolean)) ∈ zT := zT_in b477 rfl
theorem b478 : (Jvm.Cond.methodLink "DigitChip$Processor" (78 : Nat) ({ cls := "DigitChip$Processor", name := "putDigit", desc := "(I)V" } : Jvm.MethodName)) ∈ lw_tbl := zT_tb (List.mem_append_right tables_1_1 (List.mem_append_left (tables_1_3 ++ tables_1_4) (List.mem_of_getElem? (i := 238) rfl)))
theorem q478 : (Jvm.Cond.methodLink "DigitChip$Processor" (78 : Nat) ({ cls := "DigitChip$Processor", name := "putDigit", desc := "(I)V" } : Jvm.MethodName)) ∈ zT := zT_in b478 rfl
theorem b479 : (Jvm.Cond.privateMethod ({ cls := "DigitChip$Processor", name := "putDigit", desc := "(I)V" } : Jvm.MethodName)) ∈ lw_tbl := zT_tb (List.mem_append_right tables_1_1 (List.mem_append_left (tables_1_3 ++ tables_1_4) (List.mem_of_getElem? (i := 239) rfl)))
theorem b480 : (Jvm.Cond.instanceMethod ({ cls := "DigitChip$Processor", name := "putDigit", desc := "(I)V" } : Jvm.MethodName)) ∈ lw_tbl := zT_tb (List.mem_append_right tables_1_1 (List.mem_append_right tables_1_2 (List.mem_append_left tables_1_4 (List.mem_of_getElem? (i := 0) rfl))))
theorem q480 : (Jvm.Cond.instanceMethod ({ cls := "DigitChip$Processor", name := "putDigit", desc := "(I)V" } : Jvm.MethodName)) ∈ zT := zT_in b480 rfl
theorem b481 : (Jvm.Cond.code ({ cls := "DigitChip$Processor", name := "putDigit", desc := "(I)V" } : Jvm.MethodName) prog_3_method_9_code (2 : Nat) (Option.none : Option Jvm.ClassFile.FieldType)) ∈ lw_tbl := zT_tb (List.mem_append_right tables_1_1 (List.mem_append_right tables_1_2 (List.mem_append_left tables_1_4 (List.mem_of_getElem? (i := 1) rfl))))
theorem q481 : (Jvm.Cond.code ({ cls := "DigitChip$Processor", name := "putDigit", desc := "(I)V" } : Jvm.MethodName) prog_3_method_9_code (2 : Nat) (Option.none : Option Jvm.ClassFile.FieldType)) ∈ zT := zT_in b481 rfl
theorem b482 : (Jvm.Cond.methodLink "DigitChip$Processor" (57 : Nat) ({ cls := "DigitChip$Registers", name := "chooseField", desc := "(II)V" } : Jvm.MethodName)) ∈ lw_tbl := zT_tb (List.mem_append_right tables_1_1 (List.mem_append_right tables_1_2 (List.mem_append_left tables_1_4 (List.mem_of_getElem? (i := 2) rfl))))
theorem q482 : (Jvm.Cond.methodLink "DigitChip$Processor" (57 : Nat) ({ cls := "DigitChip$Registers", name := "chooseField", desc := "(II)V" } : Jvm.MethodName)) ∈ zT := zT_in b482 rfl
theorem b483 : (Jvm.Cond.instanceMethod ({ cls := "DigitChip$Registers", name := "chooseField", desc := "(II)V" } : Jvm.MethodName)) ∈ lw_tbl := zT_tb (List.mem_append_right tables_1_1 (List.mem_append_right tables_1_2 (List.mem_append_left tables_1_4 (List.mem_of_getElem? (i := 3) rfl))))
theorem q483 : (Jvm.Cond.instanceMethod ({ cls := "DigitChip$Registers", name := "chooseField", desc := "(II)V" } : Jvm.MethodName)) ∈ zT := zT_in b483 rfl
theorem b484 : (Jvm.Cond.selects "DigitChip$Registers" ({ cls := "DigitChip$Registers", name := "chooseField", desc := "(II)V" } : Jvm.MethodName) ({ cls := "DigitChip$Registers", name := "chooseField", desc := "(II)V" } : Jvm.MethodName)) ∈ lw_tbl := zT_tb (List.mem_append_right tables_1_1 (List.mem_append_right tables_1_2 (List.mem_append_left tables_1_4 (List.mem_of_getElem? (i := 4) rfl))))
theorem q484 : (Jvm.Cond.selects "DigitChip$Registers" ({ cls := "DigitChip$Registers", name := "chooseField", desc := "(II)V" } : Jvm.MethodName) ({ cls := "DigitChip$Registers", name := "chooseField", desc := "(II)V" } : Jvm.MethodName)) ∈ zT := zT_in b484 rfl
theorem b485 : (Jvm.Cond.code ({ cls := "DigitChip$Registers", name := "chooseField", desc := "(II)V" } : Jvm.MethodName) prog_4_method_3_code (3 : Nat) (Option.none : Option Jvm.ClassFile.FieldType)) ∈ lw_tbl := zT_tb (List.mem_append_right tables_1_1 (List.mem_append_right tables_1_2 (List.mem_append_left tables_1_4 (List.mem_of_getElem? (i := 5) rfl))))
theorem q485 : (Jvm.Cond.code ({ cls := "DigitChip$Registers", name := "chooseField", desc := "(II)V" } : Jvm.MethodName) prog_4_method_3_code (3 : Nat) (Option.none : Option Jvm.ClassFile.FieldType)) ∈ zT := zT_in b485 rfl
theorem b486 : (Jvm.Cond.methodLink "DigitChip$Registers" (27 : Nat) ({ cls := "DigitChip$Registers", name := "chooseDigits", desc := "(II)V" } : Jvm.MethodName)) ∈ lw_tbl := zT_tb (List.mem_append_right tables_1_1 (List.mem_append_right tables_1_2 (List.mem_append_left tables_1_4 (List.mem_of_getElem? (i := 6) rfl))))
theorem q486 : (Jvm.Cond.methodLink "DigitChip$Registers" (27 : Nat) ({ cls := "DigitChip$Registers", name := "chooseDigits", desc := "(II)V" } : Jvm.MethodName)) ∈ zT := zT_in b486 rfl
theorem b487 : (Jvm.Cond.privateMethod ({ cls := "DigitChip$Registers", name := "chooseDigits", desc := "(II)V" } : Jvm.MethodName)) ∈ lw_tbl := zT_tb (List.mem_append_right tables_1_1 (List.mem_append_right tables_1_2 (List.mem_append_left tables_1_4 (List.mem_of_getElem? (i := 7) rfl))))
theorem b488 : (Jvm.Cond.instanceMethod ({ cls := "DigitChip$Registers", name := "chooseDigits", desc := "(II)V" } : Jvm.MethodName)) ∈ lw_tbl := zT_tb (List.mem_append_right tables_1_1 (List.mem_append_right tables_1_2 (List.mem_append_left tables_1_4 (List.mem_of_getElem? (i := 8) rfl))))
theorem q488 : (Jvm.Cond.instanceMethod ({ cls := "DigitChip$Registers", name := "chooseDigits", desc := "(II)V" } : Jvm.MethodName)) ∈ zT := zT_in b488 rfl
theorem b489 : (Jvm.Cond.code ({ cls := "DigitChip$Registers", name := "chooseDigits", desc := "(II)V" } : Jvm.MethodName) prog_4_method_4_code (3 : Nat) (Option.none : Option Jvm.ClassFile.FieldType)) ∈ lw_tbl := zT_tb (List.mem_append_right tables_1_1 (List.mem_append_right tables_1_2 (List.mem_append_left tables_1_4 (List.mem_of_getElem? (i := 9) rfl))))
theorem q489 : (Jvm.Cond.code ({ cls := "DigitChip$Registers", name := "chooseDigits", desc := "(II)V" } : Jvm.MethodName) prog_4_method_4_code (3 : Nat) (Option.none : Option Jvm.ClassFile.FieldType)) ∈ zT := zT_in b489 rfl
theorem b490 : (Jvm.Cond.methodLink "DigitChip$Processor" (99 : Nat) ({ cls := "DigitChip$Registers", name := "putPart", desc := "(IJ)V" } : Jvm.MethodName)) ∈ lw_tbl := zT_tb (List.mem_append_right tables_1_1 (List.mem_append_right tables_1_2 (List.mem_append_left tables_1_4 (List.mem_of_getElem? (i := 10) rfl))))
theorem q490 : (Jvm.Cond.methodLink "DigitChip$Processor" (99 : Nat) ({ cls := "DigitChip$Registers", name := "putPart", desc := "(IJ)V" } : Jvm.MethodName)) ∈ zT := zT_in b490 rfl
theorem b491 : (Jvm.Cond.instanceMethod ({ cls := "DigitChip$Registers", name := "putPart", desc := "(IJ)V" } : Jvm.MethodName)) ∈ lw_tbl := zT_tb (List.mem_append_right tables_1_1 (List.mem_append_right tables_1_2 (List.mem_append_left tables_1_4 (List.mem_of_getElem? (i := 11) rfl))))
theorem q491 : (Jvm.Cond.instanceMethod ({ cls := "DigitChip$Registers", name := "putPart", desc := "(IJ)V" } : Jvm.MethodName)) ∈ zT := zT_in b491 rfl
theorem b492 : (Jvm.Cond.selects "DigitChip$Registers" ({ cls := "DigitChip$Registers", name := "putPart", desc := "(IJ)V" } : Jvm.MethodName) ({ cls := "DigitChip$Registers", name := "putPart", desc := "(IJ)V" } : Jvm.MethodName)) ∈ lw_tbl := zT_tb (List.mem_append_right tables_1_1 (List.mem_append_right tables_1_2 (List.mem_append_left tables_1_4 (List.mem_of_getElem? (i := 12) rfl))))
theorem q492 : (Jvm.Cond.selects "DigitChip$Registers" ({ cls := "DigitChip$Registers", name := "putPart", desc := "(IJ)V" } : Jvm.MethodName) ({ cls := "DigitChip$Registers", name := "putPart", desc := "(IJ)V" } : Jvm.MethodName)) ∈ zT := zT_in b492 rfl
theorem b493 : (Jvm.Cond.code ({ cls := "DigitChip$Registers", name := "putPart", desc := "(IJ)V" } : Jvm.MethodName) prog_4_method_6_code (4 : Nat) (Option.none : Option Jvm.ClassFile.FieldType)) ∈ lw_tbl := zT_tb (List.mem_append_right tables_1_1 (List.mem_append_right tables_1_2 (List.mem_append_left tables_1_4 (List.mem_of_getElem? (i := 13) rfl))))
theorem q493 : (Jvm.Cond.code ({ cls := "DigitChip$Registers", name := "putPart", desc := "(IJ)V" } : Jvm.MethodName) prog_4_method_6_code (4 : Nat) (Option.none : Option Jvm.ClassFile.FieldType)) ∈ zT := zT_in b493 rfl
theorem b494 : (Jvm.Cond.methodLink "DigitChip$Registers" (31 : Nat) ({ cls := "DigitChip$Registers", name := "part", desc := "(I)J" } : Jvm.MethodName)) ∈ lw_tbl := zT_tb (List.mem_append_right tables_1_1 (List.mem_append_right tables_1_2 (List.mem_append_left tables_1_4 (List.mem_of_getElem? (i := 14) rfl))))
theorem q494 : (Jvm.Cond.methodLink "DigitChip$Registers" (31 : Nat) ({ cls := "DigitChip$Registers", name := "part", desc := "(I)J" } : Jvm.MethodName)) ∈ zT := zT_in b494 rfl
theorem b495 : (Jvm.Cond.instanceMethod ({ cls := "DigitChip$Registers", name := "part", desc := "(I)J" } : Jvm.MethodName)) ∈ lw_tbl := zT_tb (List.mem_append_right tables_1_1 (List.mem_append_right tables_1_2 (List.mem_append_left tables_1_4 (List.mem_of_getElem? (i := 15) rfl))))
theorem q495 : (Jvm.Cond.instanceMethod ({ cls := "DigitChip$Registers", name := "part", desc := "(I)J" } : Jvm.MethodName)) ∈ zT := zT_in b495 rfl
theorem b496 : (Jvm.Cond.selects "DigitChip$Registers" ({ cls := "DigitChip$Registers", name := "part", desc := "(I)J" } : Jvm.MethodName) ({ cls := "DigitChip$Registers", name := "part", desc := "(I)J" } : Jvm.MethodName)) ∈ lw_tbl := zT_tb (List.mem_append_right tables_1_1 (List.mem_append_right tables_1_2 (List.mem_append_left tables_1_4 (List.mem_of_getElem? (i := 16) rfl))))
theorem q496 : (Jvm.Cond.selects "DigitChip$Registers" ({ cls := "DigitChip$Registers", name := "part", desc := "(I)J" } : Jvm.MethodName) ({ cls := "DigitChip$Registers", name := "part", desc := "(I)J" } : Jvm.MethodName)) ∈ zT := zT_in b496 rfl
theorem b497 : (Jvm.Cond.code ({ cls := "DigitChip$Registers", name := "part", desc := "(I)J" } : Jvm.MethodName) prog_4_method_5_code (2 : Nat) (Option.some Jvm.ClassFile.FieldType.long)) ∈ lw_tbl := zT_tb (List.mem_append_right tables_1_1 (List.mem_append_right tables_1_2 (List.mem_append_left tables_1_4 (List.mem_of_getElem? (i := 17) rfl))))
theorem q497 : (Jvm.Cond.code ({ cls := "DigitChip$Registers", name := "part", desc := "(I)J" } : Jvm.MethodName) prog_4_method_5_code (2 : Nat) (Option.some Jvm.ClassFile.FieldType.long)) ∈ zT := zT_in b497 rfl
theorem b498 : (Jvm.Cond.methodLink "DigitChip$Processor" (81 : Nat) ({ cls := "DigitChip$Processor", name := "lowerPointer", desc := "()V" } : Jvm.MethodName)) ∈ lw_tbl := zT_tb (List.mem_append_right tables_1_1 (List.mem_append_right tables_1_2 (List.mem_append_left tables_1_4 (List.mem_of_getElem? (i := 18) rfl))))
theorem q498 : (Jvm.Cond.methodLink "DigitChip$Processor" (81 : Nat) ({ cls := "DigitChip$Processor", name := "lowerPointer", desc := "()V" } : Jvm.MethodName)) ∈ zT := zT_in b498 rfl
theorem b499 : (Jvm.Cond.privateMethod ({ cls := "DigitChip$Processor", name := "lowerPointer", desc := "()V" } : Jvm.MethodName)) ∈ lw_tbl := zT_tb (List.mem_append_right tables_1_1 (List.mem_append_right tables_1_2 (List.mem_append_left tables_1_4 (List.mem_of_getElem? (i := 19) rfl))))
theorem b500 : (Jvm.Cond.instanceMethod ({ cls := "DigitChip$Processor", name := "lowerPointer", desc := "()V" } : Jvm.MethodName)) ∈ lw_tbl := zT_tb (List.mem_append_right tables_1_1 (List.mem_append_right tables_1_2 (List.mem_append_left tables_1_4 (List.mem_of_getElem? (i := 20) rfl))))
theorem q500 : (Jvm.Cond.instanceMethod ({ cls := "DigitChip$Processor", name := "lowerPointer", desc := "()V" } : Jvm.MethodName)) ∈ zT := zT_in b500 rfl
theorem b501 : (Jvm.Cond.code ({ cls := "DigitChip$Processor", name := "lowerPointer", desc := "()V" } : Jvm.MethodName) prog_3_method_10_code (1 : Nat) (Option.none : Option Jvm.ClassFile.FieldType)) ∈ lw_tbl := zT_tb (List.mem_append_right tables_1_1 (List.mem_append_right tables_1_2 (List.mem_append_left tables_1_4 (List.mem_of_getElem? (i := 21) rfl))))
theorem q501 : (Jvm.Cond.code ({ cls := "DigitChip$Processor", name := "lowerPointer", desc := "()V" } : Jvm.MethodName) prog_3_method_10_code (1 : Nat) (Option.none : Option Jvm.ClassFile.FieldType)) ∈ zT := zT_in b501 rfl
theorem b502 : (Jvm.Cond.methodLink "DigitChip$Processor" (84 : Nat) ({ cls := "DigitChip$Processor", name := "push", desc := "()V" } : Jvm.MethodName)) ∈ lw_tbl := zT_tb (List.mem_append_right tables_1_1 (List.mem_append_right tables_1_2 (List.mem_append_left tables_1_4 (List.mem_of_getElem? (i := 22) rfl))))
theorem q502 : (Jvm.Cond.methodLink "DigitChip$Processor" (84 : Nat) ({ cls := "DigitChip$Processor", name := "push", desc := "()V" } : Jvm.MethodName)) ∈ zT := zT_in b502 rfl
theorem b503 : (Jvm.Cond.privateMethod ({ cls := "DigitChip$Processor", name := "push", desc := "()V" } : Jvm.MethodName)) ∈ lw_tbl := zT_tb (List.mem_append_right tables_1_1 (List.mem_append_right tables_1_2 (List.mem_append_left tables_1_4 (List.mem_of_getElem? (i := 23) rfl))))
theorem b504 : (Jvm.Cond.instanceMethod ({ cls := "DigitChip$Processor", name := "push", desc := "()V" } : Jvm.MethodName)) ∈ lw_tbl := zT_tb (List.mem_append_right tables_1_1 (List.mem_append_right tables_1_2 (List.mem_append_left tables_1_4 (List.mem_of_getElem? (i := 24) rfl))))
theorem q504 : (Jvm.Cond.instanceMethod ({ cls := "DigitChip$Processor", name := "push", desc := "()V" } : Jvm.MethodName)) ∈ zT := zT_in b504 rfl
theorem b505 : (Jvm.Cond.code ({ cls := "DigitChip$Processor", name := "push", desc := "()V" } : Jvm.MethodName) prog_3_method_12_code (1 : Nat) (Option.none : Option Jvm.ClassFile.FieldType)) ∈ lw_tbl := zT_tb (List.mem_append_right tables_1_1 (List.mem_append_right tables_1_2 (List.mem_append_left tables_1_4 (List.mem_of_getElem? (i := 25) rfl))))
theorem q505 : (Jvm.Cond.code ({ cls := "DigitChip$Processor", name := "push", desc := "()V" } : Jvm.MethodName) prog_3_method_12_code (1 : Nat) (Option.none : Option Jvm.ClassFile.FieldType)) ∈ zT := zT_in b505 rfl
theorem b506 : (Jvm.Cond.methodLink "DigitChip$Processor" (87 : Nat) ({ cls := "DigitChip$Processor", name := "copy", desc := "(II)V" } : Jvm.MethodName)) ∈ lw_tbl := zT_tb (List.mem_append_right tables_1_1 (List.mem_append_right tables_1_2 (List.mem_append_left tables_1_4 (List.mem_of_getElem? (i := 26) rfl))))
theorem q506 : (Jvm.Cond.methodLink "DigitChip$Processor" (87 : Nat) ({ cls := "DigitChip$Processor", name := "copy", desc := "(II)V" } : Jvm.MethodName)) ∈ zT := zT_in b506 rfl
theorem b507 : (Jvm.Cond.privateMethod ({ cls := "DigitChip$Processor", name := "copy", desc := "(II)V" } : Jvm.MethodName)) ∈ lw_tbl := zT_tb (List.mem_append_right tables_1_1 (List.mem_append_right tables_1_2 (List.mem_append_left tables_1_4 (List.mem_of_getElem? (i := 27) rfl))))
theorem b508 : (Jvm.Cond.instanceMethod ({ cls := "DigitChip$Processor", name := "copy", desc := "(II)V" } : Jvm.MethodName)) ∈ lw_tbl := zT_tb (List.mem_append_right tables_1_1 (List.mem_append_right tables_1_2 (List.mem_append_left tables_1_4 (List.mem_of_getElem? (i := 28) rfl))))
theorem q508 : (Jvm.Cond.instanceMethod ({ cls := "DigitChip$Processor", name := "copy", desc := "(II)V" } : Jvm.MethodName)) ∈ zT := zT_in b508 rfl
theorem b509 : (Jvm.Cond.code ({ cls := "DigitChip$Processor", name := "copy", desc := "(II)V" } : Jvm.MethodName) prog_3_method_11_code (3 : Nat) (Option.none : Option Jvm.ClassFile.FieldType)) ∈ lw_tbl := zT_tb (List.mem_append_right tables_1_1 (List.mem_append_right tables_1_2 (List.mem_append_left tables_1_4 (List.mem_of_getElem? (i := 29) rfl))))
theorem q509 : (Jvm.Cond.code ({ cls := "DigitChip$Processor", name := "copy", desc := "(II)V" } : Jvm.MethodName) prog_3_method_11_code (3 : Nat) (Option.none : Option Jvm.ClassFile.FieldType)) ∈ zT := zT_in b509 rfl
theorem b510 : (Jvm.Cond.methodLink "DigitChip$Processor" (90 : Nat) ({ cls := "DigitChip$Processor", name := "lowerStack", desc := "()V" } : Jvm.MethodName)) ∈ lw_tbl := zT_tb (List.mem_append_right tables_1_1 (List.mem_append_right tables_1_2 (List.mem_append_left tables_1_4 (List.mem_of_getElem? (i := 30) rfl))))
theorem q510 : (Jvm.Cond.methodLink "DigitChip$Processor" (90 : Nat) ({ cls := "DigitChip$Processor", name := "lowerStack", desc := "()V" } : Jvm.MethodName)) ∈ zT := zT_in b510 rfl
theorem b511 : (Jvm.Cond.privateMethod ({ cls := "DigitChip$Processor", name := "lowerStack", desc := "()V" } : Jvm.MethodName)) ∈ lw_tbl := zT_tb (List.mem_append_right tables_1_1 (List.mem_append_right tables_1_2 (List.mem_append_left tables_1_4 (List.mem_of_getElem? (i := 31) rfl))))
theorem b512 : (Jvm.Cond.instanceMethod ({ cls := "DigitChip$Processor", name := "lowerStack", desc := "()V" } : Jvm.MethodName)) ∈ lw_tbl := zT_tb (List.mem_append_right tables_1_1 (List.mem_append_right tables_1_2 (List.mem_append_left tables_1_4 (List.mem_of_getElem? (i := 32) rfl))))
theorem q512 : (Jvm.Cond.instanceMethod ({ cls := "DigitChip$Processor", name := "lowerStack", desc := "()V" } : Jvm.MethodName)) ∈ zT := zT_in b512 rfl
theorem b513 : (Jvm.Cond.code ({ cls := "DigitChip$Processor", name := "lowerStack", desc := "()V" } : Jvm.MethodName) prog_3_method_13_code (1 : Nat) (Option.none : Option Jvm.ClassFile.FieldType)) ∈ lw_tbl := zT_tb (List.mem_append_right tables_1_1 (List.mem_append_right tables_1_2 (List.mem_append_left tables_1_4 (List.mem_of_getElem? (i := 33) rfl))))
theorem q513 : (Jvm.Cond.code ({ cls := "DigitChip$Processor", name := "lowerStack", desc := "()V" } : Jvm.MethodName) prog_3_method_13_code (1 : Nat) (Option.none : Option Jvm.ClassFile.FieldType)) ∈ zT := zT_in b513 rfl
theorem b514 : (Jvm.Cond.methodLink "DigitChip$Processor" (93 : Nat) ({ cls := "DigitChip$Processor", name := "takeKey", desc := "()V" } : Jvm.MethodName)) ∈ lw_tbl := zT_tb (List.mem_append_right tables_1_1 (List.mem_append_right tables_1_2 (List.mem_append_left tables_1_4 (List.mem_of_getElem? (i := 34) rfl))))
theorem q514 : (Jvm.Cond.methodLink "DigitChip$Processor" (93 : Nat) ({ cls := "DigitChip$Processor", name := "takeKey", desc := "()V" } : Jvm.MethodName)) ∈ zT := zT_in b514 rfl
theorem b515 : (Jvm.Cond.privateMethod ({ cls := "DigitChip$Processor", name := "takeKey", desc := "()V" } : Jvm.MethodName)) ∈ lw_tbl := zT_tb (List.mem_append_right tables_1_1 (List.mem_append_right tables_1_2 (List.mem_append_left tables_1_4 (List.mem_of_getElem? (i := 35) rfl))))
theorem b516 : (Jvm.Cond.instanceMethod ({ cls := "DigitChip$Processor", name := "takeKey", desc := "()V" } : Jvm.MethodName)) ∈ lw_tbl := zT_tb (List.mem_append_right tables_1_1 (List.mem_append_right tables_1_2 (List.mem_append_left tables_1_4 (List.mem_of_getElem? (i := 36) rfl))))
theorem q516 : (Jvm.Cond.instanceMethod ({ cls := "DigitChip$Processor", name := "takeKey", desc := "()V" } : Jvm.MethodName)) ∈ zT := zT_in b516 rfl
theorem b517 : (Jvm.Cond.code ({ cls := "DigitChip$Processor", name := "takeKey", desc := "()V" } : Jvm.MethodName) prog_3_method_14_code (2 : Nat) (Option.none : Option Jvm.ClassFile.FieldType)) ∈ lw_tbl := zT_tb (List.mem_append_right tables_1_1 (List.mem_append_right tables_1_2 (List.mem_append_left tables_1_4 (List.mem_of_getElem? (i := 37) rfl))))
theorem q517 : (Jvm.Cond.code ({ cls := "DigitChip$Processor", name := "takeKey", desc := "()V" } : Jvm.MethodName) prog_3_method_14_code (2 : Nat) (Option.none : Option Jvm.ClassFile.FieldType)) ∈ zT := zT_in b517 rfl
theorem b518 : (Jvm.Cond.methodLink "DigitChip$Processor" (107 : Nat) ({ cls := "DigitChip$Waiting", name := "takeFirst", desc := "()I" } : Jvm.MethodName)) ∈ lw_tbl := zT_tb (List.mem_append_right tables_1_1 (List.mem_append_right tables_1_2 (List.mem_append_left tables_1_4 (List.mem_of_getElem? (i := 38) rfl))))
theorem q518 : (Jvm.Cond.methodLink "DigitChip$Processor" (107 : Nat) ({ cls := "DigitChip$Waiting", name := "takeFirst", desc := "()I" } : Jvm.MethodName)) ∈ zT := zT_in b518 rfl
theorem b519 : (Jvm.Cond.instanceMethod ({ cls := "DigitChip$Waiting", name := "takeFirst", desc := "()I" } : Jvm.MethodName)) ∈ lw_tbl := zT_tb (List.mem_append_right tables_1_1 (List.mem_append_right tables_1_2 (List.mem_append_left tables_1_4 (List.mem_of_getElem? (i := 39) rfl))))
theorem q519 : (Jvm.Cond.instanceMethod ({ cls := "DigitChip$Waiting", name := "takeFirst", desc := "()I" } : Jvm.MethodName)) ∈ zT := zT_in b519 rfl
theorem b520 : (Jvm.Cond.selects "DigitChip$Waiting" ({ cls := "DigitChip$Waiting", name := "takeFirst", desc := "()I" } : Jvm.MethodName) ({ cls := "DigitChip$Waiting", name := "takeFirst", desc := "()I" } : Jvm.MethodName)) ∈ lw_tbl := zT_tb (List.mem_append_right tables_1_1 (List.mem_append_right tables_1_2 (List.mem_append_left tables_1_4 (List.mem_of_getElem? (i := 40) rfl))))
theorem q520 : (Jvm.Cond.selects "DigitChip$Waiting" ({ cls := "DigitChip$Waiting", name := "takeFirst", desc := "()I" } : Jvm.MethodName) ({ cls := "DigitChip$Waiting", name := "takeFirst", desc := "()I" } : Jvm.MethodName)) ∈ zT := zT_in b520 rfl
theorem b521 : (Jvm.Cond.code ({ cls := "DigitChip$Waiting", name := "takeFirst", desc := "()I" } : Jvm.MethodName) prog_5_method_3_code (3 : Nat) (Option.some Jvm.ClassFile.FieldType.int)) ∈ lw_tbl := zT_tb (List.mem_append_right tables_1_1 (List.mem_append_right tables_1_2 (List.mem_append_left tables_1_4 (List.mem_of_getElem? (i := 41) rfl))))
theorem q521 : (Jvm.Cond.code ({ cls := "DigitChip$Waiting", name := "takeFirst", desc := "()I" } : Jvm.MethodName) prog_5_method_3_code (3 : Nat) (Option.some Jvm.ClassFile.FieldType.int)) ∈ zT := zT_in b521 rfl
theorem b522 : (Jvm.Cond.methodLink "DigitChip$Processor" (96 : Nat) ({ cls := "DigitChip$Processor", name := "exchangeMemory", desc := "()V" } : Jvm.MethodName)) ∈ lw_tbl := zT_tb (List.mem_append_right tables_1_1 (List.mem_append_right tables_1_2 (List.mem_append_left tables_1_4 (List.mem_of_getElem? (i := 42) rfl))))
theorem q522 : (Jvm.Cond.methodLink "DigitChip$Processor" (96 : Nat) ({ cls := "DigitChip$Processor", name := "exchangeMemory", desc := "()V" } : Jvm.MethodName)) ∈ zT := zT_in b522 rfl
theorem b523 : (Jvm.Cond.privateMethod ({ cls := "DigitChip$Processor", name := "exchangeMemory", desc := "()V" } : Jvm.MethodName)) ∈ lw_tbl := zT_tb (List.mem_append_right tables_1_1 (List.mem_append_right tables_1_2 (List.mem_append_left tables_1_4 (List.mem_of_getElem? (i := 43) rfl))))
theorem b524 : (Jvm.Cond.instanceMethod ({ cls := "DigitChip$Processor", name := "exchangeMemory", desc := "()V" } : Jvm.MethodName)) ∈ lw_tbl := zT_tb (List.mem_append_right tables_1_1 (List.mem_append_right tables_1_2 (List.mem_append_left tables_1_4 (List.mem_of_getElem? (i := 44) rfl))))
theorem q524 : (Jvm.Cond.instanceMethod ({ cls := "DigitChip$Processor", name := "exchangeMemory", desc := "()V" } : Jvm.MethodName)) ∈ zT := zT_in b524 rfl
theorem b525 : (Jvm.Cond.code ({ cls := "DigitChip$Processor", name := "exchangeMemory", desc := "()V" } : Jvm.MethodName) prog_3_method_15_code (3 : Nat) (Option.none : Option Jvm.ClassFile.FieldType)) ∈ lw_tbl := zT_tb (List.mem_append_right tables_1_1 (List.mem_append_right tables_1_2 (List.mem_append_left tables_1_4 (List.mem_of_getElem? (i := 45) rfl))))
theorem q525 : (Jvm.Cond.code ({ cls := "DigitChip$Processor", name := "exchangeMemory", desc := "()V" } : Jvm.MethodName) prog_3_method_15_code (3 : Nat) (Option.none : Option Jvm.ClassFile.FieldType)) ∈ zT := zT_in b525 rfl
theorem b526 : (Jvm.Cond.methodLink "DigitChip$Processor" (60 : Nat) ({ cls := "DigitChip$Registers", name := "part", desc := "(I)J" } : Jvm.MethodName)) ∈ lw_tbl := zT_tb (List.mem_append_right tables_1_1 (List.mem_append_right tables_1_2 (List.mem_append_left tables_1_4 (List.mem_of_getElem? (i := 46) rfl))))
theorem q526 : (Jvm.Cond.methodLink "DigitChip$Processor" (60 : Nat) ({ cls := "DigitChip$Registers", name := "part", desc := "(I)J" } : Jvm.MethodName)) ∈ zT := zT_in b526 rfl
theorem b527 : (Jvm.Cond.methodLink "DigitChip$Processor" (64 : Nat) ({ cls := "DigitChip$Processor", name := "doFieldWork", desc := "(IJJJ)V" } : Jvm.MethodName)) ∈ lw_tbl := zT_tb (List.mem_append_right tables_1_1 (List.mem_append_right tables_1_2 (List.mem_append_left tables_1_4 (List.mem_of_getElem? (i := 47) rfl))))
theorem q527 : (Jvm.Cond.methodLink "DigitChip$Processor" (64 : Nat) ({ cls := "DigitChip$Processor", name := "doFieldWork", desc := "(IJJJ)V" } : Jvm.MethodName)) ∈ zT := zT_in b527 rfl
theorem b528 : (Jvm.Cond.privateMethod ({ cls := "DigitChip$Processor", name := "doFieldWork", desc := "(IJJJ)V" } : Jvm.MethodName)) ∈ lw_tbl := zT_tb (List.mem_append_right tables_1_1 (List.mem_append_right tables_1_2 (List.mem_append_left tables_1_4 (List.mem_of_getElem? (i := 48) rfl))))
theorem b529 : (Jvm.Cond.instanceMethod ({ cls := "DigitChip$Processor", name := "doFieldWork", desc := "(IJJJ)V" } : Jvm.MethodName)) ∈ lw_tbl := zT_tb (List.mem_append_right tables_1_1 (List.mem_append_right tables_1_2 (List.mem_append_left tables_1_4 (List.mem_of_getElem? (i := 49) rfl))))
theorem q529 : (Jvm.Cond.instanceMethod ({ cls := "DigitChip$Processor", name := "doFieldWork", desc := "(IJJJ)V" } : Jvm.MethodName)) ∈ zT := zT_in b529 rfl
theorem b530 : (Jvm.Cond.code ({ cls := "DigitChip$Processor", name := "doFieldWork", desc := "(IJJJ)V" } : Jvm.MethodName) prog_3_method_16_code (8 : Nat) (Option.none : Option Jvm.ClassFile.FieldType)) ∈ lw_tbl := zT_tb (List.mem_append_right tables_1_1 (List.mem_append_right tables_1_2 (List.mem_append_left tables_1_4 (List.mem_of_getElem? (i := 50) rfl))))
theorem q530 : (Jvm.Cond.code ({ cls := "DigitChip$Processor", name := "doFieldWork", desc := "(IJJJ)V" } : Jvm.MethodName) prog_3_method_16_code (8 : Nat) (Option.none : Option Jvm.ClassFile.FieldType)) ∈ zT := zT_in b530 rfl
theorem b531 : (Jvm.Cond.methodLink "DigitChip$Processor" (111 : Nat) ({ cls := "DigitChip$Processor", name := "putResult", desc := "(IJ)V" } : Jvm.MethodName)) ∈ lw_tbl := zT_tb (List.mem_append_right tables_1_1 (List.mem_append_right tables_1_2 (List.mem_append_left tables_1_4 (List.mem_of_getElem? (i := 51) rfl))))
theorem q531 : (Jvm.Cond.methodLink "DigitChip$Processor" (111 : Nat) ({ cls := "DigitChip$Processor", name := "putResult", desc := "(IJ)V" } : Jvm.MethodName)) ∈ zT := zT_in b531 rfl
theorem b532 : (Jvm.Cond.privateMethod ({ cls := "DigitChip$Processor", name := "putResult", desc := "(IJ)V" } : Jvm.MethodName)) ∈ lw_tbl := zT_tb (List.mem_append_right tables_1_1 (List.mem_append_right tables_1_2 (List.mem_append_left tables_1_4 (List.mem_of_getElem? (i := 52) rfl))))
theorem b533 : (Jvm.Cond.instanceMethod ({ cls := "DigitChip$Processor", name := "putResult", desc := "(IJ)V" } : Jvm.MethodName)) ∈ lw_tbl := zT_tb (List.mem_append_right tables_1_1 (List.mem_append_right tables_1_2 (List.mem_append_left tables_1_4 (List.mem_of_getElem? (i := 53) rfl))))
theorem q533 : (Jvm.Cond.instanceMethod ({ cls := "DigitChip$Processor", name := "putResult", desc := "(IJ)V" } : Jvm.MethodName)) ∈ zT := zT_in b533 rfl
theorem b534 : (Jvm.Cond.code ({ cls := "DigitChip$Processor", name := "putResult", desc := "(IJ)V" } : Jvm.MethodName) prog_3_method_17_code (4 : Nat) (Option.none : Option Jvm.ClassFile.FieldType)) ∈ lw_tbl := zT_tb (List.mem_append_right tables_1_1 (List.mem_append_right tables_1_2 (List.mem_append_left tables_1_4 (List.mem_of_getElem? (i := 54) rfl))))
theorem q534 : (Jvm.Cond.code ({ cls := "DigitChip$Processor", name := "putResult", desc := "(IJ)V" } : Jvm.MethodName) prog_3_method_17_code (4 : Nat) (Option.none : Option Jvm.ClassFile.FieldType)) ∈ zT := zT_in b534 rfl
theorem b535 : (Jvm.Cond.methodLink "DigitChip$Processor" (120 : Nat) ({ cls := "java/lang/Math", name := "floorMod", desc := "(JJ)J" } : Jvm.MethodName)) ∈ lw_tbl := zT_tb (List.mem_append_right tables_1_1 (List.mem_append_right tables_1_2 (List.mem_append_left tables_1_4 (List.mem_of_getElem? (i := 55) rfl))))
theorem q535 : (Jvm.Cond.methodLink "DigitChip$Processor" (120 : Nat) ({ cls := "java/lang/Math", name := "floorMod", desc := "(JJ)J" } : Jvm.MethodName)) ∈ zT := zT_in b535 rfl
theorem b536 : (Jvm.Cond.static ({ cls := "java/lang/Math", name := "floorMod", desc := "(JJ)J" } : Jvm.MethodName)) ∈ lw_tbl := zT_tb (List.mem_append_right tables_1_1 (List.mem_append_right tables_1_2 (List.mem_append_left tables_1_4 (List.mem_of_getElem? (i := 56) rfl))))
theorem q536 : (Jvm.Cond.static ({ cls := "java/lang/Math", name := "floorMod", desc := "(JJ)J" } : Jvm.MethodName)) ∈ zT := zT_in b536 rfl
theorem b537 : (Jvm.Cond.code ({ cls := "java/lang/Math", name := "floorMod", desc := "(JJ)J" } : Jvm.MethodName) prog_11_method_52_code (6 : Nat) (Option.some Jvm.ClassFile.FieldType.long)) ∈ lw_tbl := zT_tb (List.mem_append_right tables_1_1 (List.mem_append_right tables_1_2 (List.mem_append_left tables_1_4 (List.mem_of_getElem? (i := 57) rfl))))
theorem q537 : (Jvm.Cond.code ({ cls := "java/lang/Math", name := "floorMod", desc := "(JJ)J" } : Jvm.MethodName) prog_11_method_52_code (6 : Nat) (Option.some Jvm.ClassFile.FieldType.long)) ∈ zT := zT_in b537 rfl
theorem b538 : (Jvm.Cond.constantLong "DigitChip$Processor" (114 : Nat) (10 : Int64)) ∈ lw_tbl := zT_tb (List.mem_append_right tables_1_1 (List.mem_append_right tables_1_2 (List.mem_append_left tables_1_4 (List.mem_of_getElem? (i := 58) rfl))))
theorem q538 : (Jvm.Cond.constantLong "DigitChip$Processor" (114 : Nat) (10 : Int64)) ∈ zT := zT_in b538 rfl
theorem b539 : (Jvm.Cond.classLink "DigitChipLaw" (20 : Nat) "DigitChipModel") ∈ lw_tbl := zT_tb (List.mem_append_right tables_1_1 (List.mem_append_right tables_1_2 (List.mem_append_left tables_1_4 (List.mem_of_getElem? (i := 59) rfl))))
theorem q539 : (Jvm.Cond.classLink "DigitChipLaw" (20 : Nat) "DigitChipModel") ∈ zT := zT_in b539 rfl
theorem b540 : (Jvm.Cond.instantiable "DigitChipModel" (21 : Nat)) ∈ lw_tbl := zT_tb (List.mem_append_right tables_1_1 (List.mem_append_right tables_1_2 (List.mem_append_left tables_1_4 (List.mem_of_getElem? (i := 60) rfl))))
theorem q540 : (Jvm.Cond.instantiable "DigitChipModel" (21 : Nat)) ∈ zT := zT_in b540 rfl
theorem b541 : (Jvm.Cond.methodLink "DigitChipLaw" (22 : Nat) ({ cls := "DigitChipModel", name := "<init>", desc := "()V" } : Jvm.MethodName)) ∈ lw_tbl := zT_tb (List.mem_append_right tables_1_1 (List.mem_append_right tables_1_2 (List.mem_append_left tables_1_4 (List.mem_of_getElem? (i := 61) rfl))))
theorem q541 : (Jvm.Cond.methodLink "DigitChipLaw" (22 : Nat) ({ cls := "DigitChipModel", name := "<init>", desc := "()V" } : Jvm.MethodName)) ∈ zT := zT_in b541 rfl
theorem b542 : (Jvm.Cond.instanceMethod ({ cls := "DigitChipModel", name := "<init>", desc := "()V" } : Jvm.MethodName)) ∈ lw_tbl := zT_tb (List.mem_append_right tables_1_1 (List.mem_append_right tables_1_2 (List.mem_append_left tables_1_4 (List.mem_of_getElem? (i := 62) rfl))))
theorem q542 : (Jvm.Cond.instanceMethod ({ cls := "DigitChipModel", name := "<init>", desc := "()V" } : Jvm.MethodName)) ∈ zT := zT_in b542 rfl
theorem b543 : (Jvm.Cond.code ({ cls := "DigitChipModel", name := "<init>", desc := "()V" } : Jvm.MethodName) prog_7_method_1_code (2 : Nat) (Option.none : Option Jvm.ClassFile.FieldType)) ∈ lw_tbl := zT_tb (List.mem_append_right tables_1_1 (List.mem_append_right tables_1_2 (List.mem_append_left tables_1_4 (List.mem_of_getElem? (i := 63) rfl))))
theorem q543 : (Jvm.Cond.code ({ cls := "DigitChipModel", name := "<init>", desc := "()V" } : Jvm.MethodName) prog_7_method_1_code (2 : Nat) (Option.none : Option Jvm.ClassFile.FieldType)) ∈ zT := zT_in b543 rfl
theorem b544 : (Jvm.Cond.methodLink "DigitChipModel" (1 : Nat) ({ cls := "java/lang/Object", name := "<init>", desc := "()V" } : Jvm.MethodName)) ∈ lw_tbl := zT_tb (List.mem_append_right tables_1_1 (List.mem_append_right tables_1_2 (List.mem_append_left tables_1_4 (List.mem_of_getElem? (i := 64) rfl))))
theorem q544 : (Jvm.Cond.methodLink "DigitChipModel" (1 : Nat) ({ cls := "java/lang/Object", name := "<init>", desc := "()V" } : Jvm.MethodName)) ∈ zT := zT_in b544 rfl
theorem b545 : (Jvm.Cond.constantLong "DigitChipModel" (40 : Nat) (10 : Int64)) ∈ lw_tbl := zT_tb (List.mem_append_right tables_1_1 (List.mem_append_right tables_1_2 (List.mem_append_left tables_1_4 (List.mem_of_getElem? (i := 65) rfl))))
theorem q545 : (Jvm.Cond.constantLong "DigitChipModel" (40 : Nat) (10 : Int64)) ∈ zT := zT_in b545 rfl
theorem b546 : (Jvm.Cond.fieldLink "DigitChipModel" (42 : Nat) "DigitChipModel" "code" "I") ∈ lw_tbl := zT_tb (List.mem_append_right tables_1_1 (List.mem_append_right tables_1_2 (List.mem_append_left tables_1_4 (List.mem_of_getElem? (i := 66) rfl))))
theorem q546 : (Jvm.Cond.fieldLink "DigitChipModel" (42 : Nat) "DigitChipModel" "code" "I") ∈ zT := zT_in b546 rfl
theorem b547 : (Jvm.Cond.fieldLink "DigitChipModel" (7 : Nat) "DigitChipModel" "powers" "[J") ∈ lw_tbl := zT_tb (List.mem_append_right tables_1_1 (List.mem_append_right tables_1_2 (List.mem_append_left tables_1_4 (List.mem_of_getElem? (i := 67) rfl))))
theorem q547 : (Jvm.Cond.fieldLink "DigitChipModel" (7 : Nat) "DigitChipModel" "powers" "[J") ∈ zT := zT_in b547 rfl
theorem b548 : (Jvm.Cond.fieldLink "DigitChipModel" (13 : Nat) "DigitChipModel" "registers" "[J") ∈ lw_tbl := zT_tb (List.mem_append_right tables_1_1 (List.mem_append_right tables_1_2 (List.mem_append_left tables_1_4 (List.mem_of_getElem? (i := 68) rfl))))
theorem q548 : (Jvm.Cond.fieldLink "DigitChipModel" (13 : Nat) "DigitChipModel" "registers" "[J") ∈ zT := zT_in b548 rfl
theorem b549 : (Jvm.Cond.fieldLink "DigitChipModel" (45 : Nat) "DigitChipModel" "pointer" "I") ∈ lw_tbl := zT_tb (List.mem_append_right tables_1_1 (List.mem_append_right tables_1_2 (List.mem_append_left tables_1_4 (List.mem_of_getElem? (i := 69) rfl))))
theorem q549 : (Jvm.Cond.fieldLink "DigitChipModel" (45 : Nat) "DigitChipModel" "pointer" "I") ∈ zT := zT_in b549 rfl
theorem b550 : (Jvm.Cond.fieldLink "DigitChipModel" (74 : Nat) "DigitChipModel" "status" "I") ∈ lw_tbl := zT_tb (List.mem_append_right tables_1_1 (List.mem_append_right tables_1_2 (List.mem_append_left tables_1_4 (List.mem_of_getElem? (i := 70) rfl))))
theorem q550 : (Jvm.Cond.fieldLink "DigitChipModel" (74 : Nat) "DigitChipModel" "status" "I") ∈ zT := zT_in b550 rfl
theorem b551 : (Jvm.Cond.fieldLink "DigitChipModel" (59 : Nat) "DigitChipModel" "carry" "Z") ∈ lw_tbl := zT_tb (List.mem_append_right tables_1_1 (List.mem_append_right tables_1_2 (List.mem_append_left tables_1_4 (List.mem_of_getElem? (i := 71) rfl))))
theorem q551 : (Jvm.Cond.fieldLink "DigitChipModel" (59 : Nat) "DigitChipModel" "carry" "Z") ∈ zT := zT_in b551 rfl
theorem b552 : (Jvm.Cond.fieldLink "DigitChipModel" (84 : Nat) "DigitChipModel" "place" "I") ∈ lw_tbl := zT_tb (List.mem_append_right tables_1_1 (List.mem_append_right tables_1_2 (List.mem_append_left tables_1_4 (List.mem_of_getElem? (i := 72) rfl))))
theorem q552 : (Jvm.Cond.fieldLink "DigitChipModel" (84 : Nat) "DigitChipModel" "place" "I") ∈ zT := zT_in b552 rfl
theorem b553 : (Jvm.Cond.fieldLink "DigitChipModel" (81 : Nat) "DigitChipModel" "back" "I") ∈ lw_tbl := zT_tb (List.mem_append_right tables_1_1 (List.mem_append_right tables_1_2 (List.mem_append_left tables_1_4 (List.mem_of_getElem? (i := 73) rfl))))
theorem q553 : (Jvm.Cond.fieldLink "DigitChipModel" (81 : Nat) "DigitChipModel" "back" "I") ∈ zT := zT_in b553 rfl
theorem b554 : (Jvm.Cond.fieldLink "DigitChipModel" (16 : Nat) "DigitChipModel" "words" "[I") ∈ lw_tbl := zT_tb (List.mem_append_right tables_1_1 (List.mem_append_right tables_1_2 (List.mem_append_left tables_1_4 (List.mem_of_getElem? (i := 74) rfl))))
theorem q554 : (Jvm.Cond.fieldLink "DigitChipModel" (16 : Nat) "DigitChipModel" "words" "[I") ∈ zT := zT_in b554 rfl
theorem b555 : (Jvm.Cond.fieldLink "DigitChipModel" (93 : Nat) "DigitChipModel" "keys" "I") ∈ lw_tbl := zT_tb (List.mem_append_right tables_1_1 (List.mem_append_right tables_1_2 (List.mem_append_left tables_1_4 (List.mem_of_getElem? (i := 75) rfl))))
theorem q555 : (Jvm.Cond.fieldLink "DigitChipModel" (93 : Nat) "DigitChipModel" "keys" "I") ∈ zT := zT_in b555 rfl
theorem b556 : (Jvm.Cond.fieldLink "DigitChipModel" (20 : Nat) "DigitChipModel" "pressed" "[I") ∈ lw_tbl := zT_tb (List.mem_append_right tables_1_1 (List.mem_append_right tables_1_2 (List.mem_append_left tables_1_4 (List.mem_of_getElem? (i := 76) rfl))))
theorem q556 : (Jvm.Cond.fieldLink "DigitChipModel" (20 : Nat) "DigitChipModel" "pressed" "[I") ∈ zT := zT_in b556 rfl
theorem b557 : (Jvm.Cond.fieldLink "DigitChipModel" (90 : Nat) "DigitChipModel" "ended" "Z") ∈ lw_tbl := zT_tb (List.mem_append_right tables_1_1 (List.mem_append_right tables_1_2 (List.mem_append_left tables_1_4 (List.mem_of_getElem? (i := 77) rfl))))
theorem q557 : (Jvm.Cond.fieldLink "DigitChipModel" (90 : Nat) "DigitChipModel" "ended" "Z") ∈ zT := zT_in b557 rfl
theorem b558 : (Jvm.Cond.fieldLink "DigitChipModel" (48 : Nat) "DigitChipModel" "low" "J") ∈ lw_tbl := zT_tb (List.mem_append_right tables_1_1 (List.mem_append_right tables_1_2 (List.mem_append_left tables_1_4 (List.mem_of_getElem? (i := 78) rfl))))
theorem q558 : (Jvm.Cond.fieldLink "DigitChipModel" (48 : Nat) "DigitChipModel" "low" "J") ∈ zT := zT_in b558 rfl
theorem b559 : (Jvm.Cond.fieldLink "DigitChipModel" (52 : Nat) "DigitChipModel" "wide" "J") ∈ lw_tbl := zT_tb (List.mem_append_right tables_1_1 (List.mem_append_right tables_1_2 (List.mem_append_left tables_1_4 (List.mem_of_getElem? (i := 79) rfl))))
theorem q559 : (Jvm.Cond.fieldLink "DigitChipModel" (52 : Nat) "DigitChipModel" "wide" "J") ∈ zT := zT_in b559 rfl
theorem b560 : (Jvm.Cond.fieldLink "DigitChipModel" (235 : Nat) "DigitChipModel" "size" "I") ∈ lw_tbl := zT_tb (List.mem_append_right tables_1_1 (List.mem_append_right tables_1_2 (List.mem_append_left tables_1_4 (List.mem_of_getElem? (i := 80) rfl))))
theorem q560 : (Jvm.Cond.fieldLink "DigitChipModel" (235 : Nat) "DigitChipModel" "size" "I") ∈ zT := zT_in b560 rfl
theorem b561 : (Jvm.Cond.fieldLink "DigitChipModel" (23 : Nat) "DigitChipModel" "text" "[C") ∈ lw_tbl := zT_tb (List.mem_append_right tables_1_1 (List.mem_append_right tables_1_2 (List.mem_append_left tables_1_4 (List.mem_of_getElem? (i := 81) rfl))))
theorem q561 : (Jvm.Cond.fieldLink "DigitChipModel" (23 : Nat) "DigitChipModel" "text" "[C") ∈ zT := zT_in b561 rfl
theorem b562 : (Jvm.Cond.fieldLink "DigitChipModel" (27 : Nat) "DigitChipModel" "illAt" "I") ∈ lw_tbl := zT_tb (List.mem_append_right tables_1_1 (List.mem_append_right tables_1_2 (List.mem_append_left tables_1_4 (List.mem_of_getElem? (i := 82) rfl))))
theorem q562 : (Jvm.Cond.fieldLink "DigitChipModel" (27 : Nat) "DigitChipModel" "illAt" "I") ∈ zT := zT_in b562 rfl
theorem b563 : (Jvm.Cond.fieldLink "DigitChipModel" (228 : Nat) "DigitChipModel" "count" "I") ∈ lw_tbl := zT_tb (List.mem_append_right tables_1_1 (List.mem_append_right tables_1_2 (List.mem_append_left tables_1_4 (List.mem_of_getElem? (i := 83) rfl))))
theorem q563 : (Jvm.Cond.fieldLink "DigitChipModel" (228 : Nat) "DigitChipModel" "count" "I") ∈ zT := zT_in b563 rfl
theorem b564 : (Jvm.Cond.fieldLink "DigitChipModel" (31 : Nat) "DigitChipModel" "made" "[I") ∈ lw_tbl := zT_tb (List.mem_append_right tables_1_1 (List.mem_append_right tables_1_2 (List.mem_append_left tables_1_4 (List.mem_of_getElem? (i := 84) rfl))))
theorem q564 : (Jvm.Cond.fieldLink "DigitChipModel" (31 : Nat) "DigitChipModel" "made" "[I") ∈ zT := zT_in b564 rfl
theorem b565 : (Jvm.Cond.fieldLink "DigitChipModel" (34 : Nat) "DigitChipModel" "labels" "[I") ∈ lw_tbl := zT_tb (List.mem_append_right tables_1_1 (List.mem_append_right tables_1_2 (List.mem_append_left tables_1_4 (List.mem_of_getElem? (i := 85) rfl))))
theorem q565 : (Jvm.Cond.fieldLink "DigitChipModel" (34 : Nat) "DigitChipModel" "labels" "[I") ∈ zT := zT_in b565 rfl
theorem b566 : (Jvm.Cond.fieldLink "DigitChipModel" (37 : Nat) "DigitChipModel" "wanted" "[I") ∈ lw_tbl := zT_tb (List.mem_append_right tables_1_1 (List.mem_append_right tables_1_2 (List.mem_append_left tables_1_4 (List.mem_of_getElem? (i := 86) rfl))))
theorem q566 : (Jvm.Cond.fieldLink "DigitChipModel" (37 : Nat) "DigitChipModel" "wanted" "[I") ∈ zT := zT_in b566 rfl
theorem b567 : (Jvm.Cond.lays "DigitChipModel" "DigitChipModel" "code" "I") ∈ lw_tbl := zT_tb (List.mem_append_right tables_1_1 (List.mem_append_right tables_1_2 (List.mem_append_left tables_1_4 (List.mem_of_getElem? (i := 87) rfl))))
theorem q567 : (Jvm.Cond.lays "DigitChipModel" "DigitChipModel" "code" "I") ∈ zT := zT_in b567 rfl
theorem b568 : (Jvm.Cond.soleField "DigitChipModel" "code") ∈ lw_tbl := zT_tb (List.mem_append_right tables_1_1 (List.mem_append_right tables_1_2 (List.mem_append_left tables_1_4 (List.mem_of_getElem? (i := 88) rfl))))
theorem b569 : (Jvm.Cond.laysFinal "DigitChipModel" "DigitChipModel" "powers" "[J") ∈ lw_tbl := zT_tb (List.mem_append_right tables_1_1 (List.mem_append_right tables_1_2 (List.mem_append_left tables_1_4 (List.mem_of_getElem? (i := 89) rfl))))
theorem q569 : (Jvm.Cond.laysFinal "DigitChipModel" "DigitChipModel" "powers" "[J") ∈ zT := zT_in b569 rfl
theorem b570 : (Jvm.Cond.soleField "DigitChipModel" "powers") ∈ lw_tbl := zT_tb (List.mem_append_right tables_1_1 (List.mem_append_right tables_1_2 (List.mem_append_left tables_1_4 (List.mem_of_getElem? (i := 90) rfl))))
theorem b571 : (Jvm.Cond.laysFinal "DigitChipModel" "DigitChipModel" "registers" "[J") ∈ lw_tbl := zT_tb (List.mem_append_right tables_1_1 (List.mem_append_right tables_1_2 (List.mem_append_left tables_1_4 (List.mem_of_getElem? (i := 91) rfl))))
theorem q571 : (Jvm.Cond.laysFinal "DigitChipModel" "DigitChipModel" "registers" "[J") ∈ zT := zT_in b571 rfl
theorem b572 : (Jvm.Cond.soleField "DigitChipModel" "registers") ∈ lw_tbl := zT_tb (List.mem_append_right tables_1_1 (List.mem_append_right tables_1_2 (List.mem_append_left tables_1_4 (List.mem_of_getElem? (i := 92) rfl))))
theorem b573 : (Jvm.Cond.lays "DigitChipModel" "DigitChipModel" "pointer" "I") ∈ lw_tbl := zT_tb (List.mem_append_right tables_1_1 (List.mem_append_right tables_1_2 (List.mem_append_left tables_1_4 (List.mem_of_getElem? (i := 93) rfl))))
theorem q573 : (Jvm.Cond.lays "DigitChipModel" "DigitChipModel" "pointer" "I") ∈ zT := zT_in b573 rfl
theorem b574 : (Jvm.Cond.soleField "DigitChipModel" "pointer") ∈ lw_tbl := zT_tb (List.mem_append_right tables_1_1 (List.mem_append_right tables_1_2 (List.mem_append_left tables_1_4 (List.mem_of_getElem? (i := 94) rfl))))
theorem b575 : (Jvm.Cond.lays "DigitChipModel" "DigitChipModel" "status" "I") ∈ lw_tbl := zT_tb (List.mem_append_right tables_1_1 (List.mem_append_right tables_1_2 (List.mem_append_left tables_1_4 (List.mem_of_getElem? (i := 95) rfl))))
theorem q575 : (Jvm.Cond.lays "DigitChipModel" "DigitChipModel" "status" "I") ∈ zT := zT_in b575 rfl
theorem b576 : (Jvm.Cond.soleField "DigitChipModel" "status") ∈ lw_tbl := zT_tb (List.mem_append_right tables_1_1 (List.mem_append_right tables_1_2 (List.mem_append_left tables_1_4 (List.mem_of_getElem? (i := 96) rfl))))
theorem b577 : (Jvm.Cond.lays "DigitChipModel" "DigitChipModel" "carry" "Z") ∈ lw_tbl := zT_tb (List.mem_append_right tables_1_1 (List.mem_append_right tables_1_2 (List.mem_append_left tables_1_4 (List.mem_of_getElem? (i := 97) rfl))))
theorem q577 : (Jvm.Cond.lays "DigitChipModel" "DigitChipModel" "carry" "Z") ∈ zT := zT_in b577 rfl
theorem b578 : (Jvm.Cond.soleField "DigitChipModel" "carry") ∈ lw_tbl := zT_tb (List.mem_append_right tables_1_1 (List.mem_append_right tables_1_2 (List.mem_append_left tables_1_4 (List.mem_of_getElem? (i := 98) rfl))))
theorem b579 : (Jvm.Cond.lays "DigitChipModel" "DigitChipModel" "place" "I") ∈ lw_tbl := zT_tb (List.mem_append_right tables_1_1 (List.mem_append_right tables_1_2 (List.mem_append_left tables_1_4 (List.mem_of_getElem? (i := 99) rfl))))
theorem q579 : (Jvm.Cond.lays "DigitChipModel" "DigitChipModel" "place" "I") ∈ zT := zT_in b579 rfl
theorem b580 : (Jvm.Cond.soleField "DigitChipModel" "place") ∈ lw_tbl := zT_tb (List.mem_append_right tables_1_1 (List.mem_append_right tables_1_2 (List.mem_append_left tables_1_4 (List.mem_of_getElem? (i := 100) rfl))))
theorem b581 : (Jvm.Cond.lays "DigitChipModel" "DigitChipModel" "back" "I") ∈ lw_tbl := zT_tb (List.mem_append_right tables_1_1 (List.mem_append_right tables_1_2 (List.mem_append_left tables_1_4 (List.mem_of_getElem? (i := 101) rfl))))
theorem q581 : (Jvm.Cond.lays "DigitChipModel" "DigitChipModel" "back" "I") ∈ zT := zT_in b581 rfl
theorem b582 : (Jvm.Cond.soleField "DigitChipModel" "back") ∈ lw_tbl := zT_tb (List.mem_append_right tables_1_1 (List.mem_append_right tables_1_2 (List.mem_append_left tables_1_4 (List.mem_of_getElem? (i := 102) rfl))))
theorem b583 : (Jvm.Cond.laysFinal "DigitChipModel" "DigitChipModel" "words" "[I") ∈ lw_tbl := zT_tb (List.mem_append_right tables_1_1 (List.mem_append_right tables_1_2 (List.mem_append_left tables_1_4 (List.mem_of_getElem? (i := 103) rfl))))
theorem q583 : (Jvm.Cond.laysFinal "DigitChipModel" "DigitChipModel" "words" "[I") ∈ zT := zT_in b583 rfl
theorem b584 : (Jvm.Cond.soleField "DigitChipModel" "words") ∈ lw_tbl := zT_tb (List.mem_append_right tables_1_1 (List.mem_append_right tables_1_2 (List.mem_append_left tables_1_4 (List.mem_of_getElem? (i := 104) rfl))))
theorem b585 : (Jvm.Cond.lays "DigitChipModel" "DigitChipModel" "keys" "I") ∈ lw_tbl := zT_tb (List.mem_append_right tables_1_1 (List.mem_append_right tables_1_2 (List.mem_append_left tables_1_4 (List.mem_of_getElem? (i := 105) rfl))))
theorem q585 : (Jvm.Cond.lays "DigitChipModel" "DigitChipModel" "keys" "I") ∈ zT := zT_in b585 rfl
theorem b586 : (Jvm.Cond.soleField "DigitChipModel" "keys") ∈ lw_tbl := zT_tb (List.mem_append_right tables_1_1 (List.mem_append_right tables_1_2 (List.mem_append_left tables_1_4 (List.mem_of_getElem? (i := 106) rfl))))
theorem b587 : (Jvm.Cond.laysFinal "DigitChipModel" "DigitChipModel" "pressed" "[I") ∈ lw_tbl := zT_tb (List.mem_append_right tables_1_1 (List.mem_append_right tables_1_2 (List.mem_append_left tables_1_4 (List.mem_of_getElem? (i := 107) rfl))))
theorem q587 : (Jvm.Cond.laysFinal "DigitChipModel" "DigitChipModel" "pressed" "[I") ∈ zT := zT_in b587 rfl
theorem b588 : (Jvm.Cond.soleField "DigitChipModel" "pressed") ∈ lw_tbl := zT_tb (List.mem_append_right tables_1_1 (List.mem_append_right tables_1_2 (List.mem_append_left tables_1_4 (List.mem_of_getElem? (i := 108) rfl))))
theorem b589 : (Jvm.Cond.lays "DigitChipModel" "DigitChipModel" "ended" "Z") ∈ lw_tbl := zT_tb (List.mem_append_right tables_1_1 (List.mem_append_right tables_1_2 (List.mem_append_left tables_1_4 (List.mem_of_getElem? (i := 109) rfl))))
theorem q589 : (Jvm.Cond.lays "DigitChipModel" "DigitChipModel" "ended" "Z") ∈ zT := zT_in b589 rfl
theorem b590 : (Jvm.Cond.soleField "DigitChipModel" "ended") ∈ lw_tbl := zT_tb (List.mem_append_right tables_1_1 (List.mem_append_right tables_1_2 (List.mem_append_left tables_1_4 (List.mem_of_getElem? (i := 110) rfl))))
theorem b591 : (Jvm.Cond.lays "DigitChipModel" "DigitChipModel" "low" "J") ∈ lw_tbl := zT_tb (List.mem_append_right tables_1_1 (List.mem_append_right tables_1_2 (List.mem_append_left tables_1_4 (List.mem_of_getElem? (i := 111) rfl))))
theorem q591 : (Jvm.Cond.lays "DigitChipModel" "DigitChipModel" "low" "J") ∈ zT := zT_in b591 rfl
theorem b592 : (Jvm.Cond.soleField "DigitChipModel" "low") ∈ lw_tbl := zT_tb (List.mem_append_right tables_1_1 (List.mem_append_right tables_1_2 (List.mem_append_left tables_1_4 (List.mem_of_getElem? (i := 112) rfl))))
theorem b593 : (Jvm.Cond.lays "DigitChipModel" "DigitChipModel" "wide" "J") ∈ lw_tbl := zT_tb (List.mem_append_right tables_1_1 (List.mem_append_right tables_1_2 (List.mem_append_left tables_1_4 (List.mem_of_getElem? (i := 113) rfl))))
theorem q593 : (Jvm.Cond.lays "DigitChipModel" "DigitChipModel" "wide" "J") ∈ zT := zT_in b593 rfl
theorem b594 : (Jvm.Cond.soleField "DigitChipModel" "wide") ∈ lw_tbl := zT_tb (List.mem_append_right tables_1_1 (List.mem_append_right tables_1_2 (List.mem_append_left tables_1_4 (List.mem_of_getElem? (i := 114) rfl))))
theorem b595 : (Jvm.Cond.lays "DigitChipModel" "DigitChipModel" "size" "I") ∈ lw_tbl := zT_tb (List.mem_append_right tables_1_1 (List.mem_append_right tables_1_2 (List.mem_append_left tables_1_4 (List.mem_of_getElem? (i := 115) rfl))))
theorem q595 : (Jvm.Cond.lays "DigitChipModel" "DigitChipModel" "size" "I") ∈ zT := zT_in b595 rfl
theorem b596 : (Jvm.Cond.soleField "DigitChipModel" "size") ∈ lw_tbl := zT_tb (List.mem_append_right tables_1_1 (List.mem_append_right tables_1_2 (List.mem_append_left tables_1_4 (List.mem_of_getElem? (i := 116) rfl))))
theorem b597 : (Jvm.Cond.laysFinal "DigitChipModel" "DigitChipModel" "text" "[C") ∈ lw_tbl := zT_tb (List.mem_append_right tables_1_1 (List.mem_append_right tables_1_2 (List.mem_append_left tables_1_4 (List.mem_of_getElem? (i := 117) rfl))))
theorem q597 : (Jvm.Cond.laysFinal "DigitChipModel" "DigitChipModel" "text" "[C") ∈ zT := zT_in b597 rfl
theorem b598 : (Jvm.Cond.soleField "DigitChipModel" "text") ∈ lw_tbl := zT_tb (List.mem_append_right tables_1_1 (List.mem_append_right tables_1_2 (List.mem_append_left tables_1_4 (List.mem_of_getElem? (i := 118) rfl))))
theorem b599 : (Jvm.Cond.lays "DigitChipModel" "DigitChipModel" "illAt" "I") ∈ lw_tbl := zT_tb (List.mem_append_right tables_1_1 (List.mem_append_right tables_1_2 (List.mem_append_left tables_1_4 (List.mem_of_getElem? (i := 119) rfl))))
theorem q599 : (Jvm.Cond.lays "DigitChipModel" "DigitChipModel" "illAt" "I") ∈ zT := zT_in b599 rfl
theorem b600 : (Jvm.Cond.soleField "DigitChipModel" "illAt") ∈ lw_tbl := zT_tb (List.mem_append_right tables_1_1 (List.mem_append_right tables_1_2 (List.mem_append_left tables_1_4 (List.mem_of_getElem? (i := 120) rfl))))
theorem b601 : (Jvm.Cond.lays "DigitChipModel" "DigitChipModel" "count" "I") ∈ lw_tbl := zT_tb (List.mem_append_right tables_1_1 (List.mem_append_right tables_1_2 (List.mem_append_left tables_1_4 (List.mem_of_getElem? (i := 121) rfl))))
theorem q601 : (Jvm.Cond.lays "DigitChipModel" "DigitChipModel" "count" "I") ∈ zT := zT_in b601 rfl
theorem b602 : (Jvm.Cond.soleField "DigitChipModel" "count") ∈ lw_tbl := zT_tb (List.mem_append_right tables_1_1 (List.mem_append_right tables_1_2 (List.mem_append_left tables_1_4 (List.mem_of_getElem? (i := 122) rfl))))
theorem b603 : (Jvm.Cond.laysFinal "DigitChipModel" "DigitChipModel" "made" "[I") ∈ lw_tbl := zT_tb (List.mem_append_right tables_1_1 (List.mem_append_right tables_1_2 (List.mem_append_left tables_1_4 (List.mem_of_getElem? (i := 123) rfl))))
theorem q603 : (Jvm.Cond.laysFinal "DigitChipModel" "DigitChipModel" "made" "[I") ∈ zT := zT_in b603 rfl
theorem b604 : (Jvm.Cond.soleField "DigitChipModel" "made") ∈ lw_tbl := zT_tb (List.mem_append_right tables_1_1 (List.mem_append_right tables_1_2 (List.mem_append_left tables_1_4 (List.mem_of_getElem? (i := 124) rfl))))
theorem b605 : (Jvm.Cond.laysFinal "DigitChipModel" "DigitChipModel" "labels" "[I") ∈ lw_tbl := zT_tb (List.mem_append_right tables_1_1 (List.mem_append_right tables_1_2 (List.mem_append_left tables_1_4 (List.mem_of_getElem? (i := 125) rfl))))
theorem q605 : (Jvm.Cond.laysFinal "DigitChipModel" "DigitChipModel" "labels" "[I") ∈ zT := zT_in b605 rfl
theorem b606 : (Jvm.Cond.soleField "DigitChipModel" "labels") ∈ lw_tbl := zT_tb (List.mem_append_right tables_1_1 (List.mem_append_right tables_1_2 (List.mem_append_left tables_1_4 (List.mem_of_getElem? (i := 126) rfl))))
theorem b607 : (Jvm.Cond.laysFinal "DigitChipModel" "DigitChipModel" "wanted" "[I") ∈ lw_tbl := zT_tb (List.mem_append_right tables_1_1 (List.mem_append_right tables_1_2 (List.mem_append_left tables_1_4 (List.mem_of_getElem? (i := 127) rfl))))
theorem q607 : (Jvm.Cond.laysFinal "DigitChipModel" "DigitChipModel" "wanted" "[I") ∈ zT := zT_in b607 rfl
theorem b608 : (Jvm.Cond.soleField "DigitChipModel" "wanted") ∈ lw_tbl := zT_tb (List.mem_append_right tables_1_1 (List.mem_append_right tables_1_2 (List.mem_append_left tables_1_4 (List.mem_of_getElem? (i := 128) rfl))))
theorem b609 : (Jvm.Cond.superclass "DigitChipModel" "java/lang/Object") ∈ lw_tbl := zT_tb (List.mem_append_right tables_1_1 (List.mem_append_right tables_1_2 (List.mem_append_left tables_1_4 (List.mem_of_getElem? (i := 129) rfl))))
theorem b610 : (Jvm.Cond.methodLink "DigitChipLaw" (34 : Nat) ({ cls := "DigitChipModel", name := "thrown", desc := "()I" } : Jvm.MethodName)) ∈ lw_tbl := zT_tb (List.mem_append_right tables_1_1 (List.mem_append_right tables_1_2 (List.mem_append_left tables_1_4 (List.mem_of_getElem? (i := 130) rfl))))
theorem q610 : (Jvm.Cond.methodLink "DigitChipLaw" (34 : Nat) ({ cls := "DigitChipModel", name := "thrown", desc := "()I" } : Jvm.MethodName)) ∈ zT := zT_in b610 rfl
theorem b611 : (Jvm.Cond.instanceMethod ({ cls := "DigitChipModel", name := "thrown", desc := "()I" } : Jvm.MethodName)) ∈ lw_tbl := zT_tb (List.mem_append_right tables_1_1 (List.mem_append_right tables_1_2 (List.mem_append_left tables_1_4 (List.mem_of_getElem? (i := 131) rfl))))
theorem q611 : (Jvm.Cond.instanceMethod ({ cls := "DigitChipModel", name := "thrown", desc := "()I" } : Jvm.MethodName)) ∈ zT := zT_in b611 rfl
theorem b612 : (Jvm.Cond.selects "DigitChipModel" ({ cls := "DigitChipModel", name := "thrown", desc := "()I" } : Jvm.MethodName) ({ cls := "DigitChipModel", name := "thrown", desc := "()I" } : Jvm.MethodName)) ∈ lw_tbl := zT_tb (List.mem_append_right tables_1_1 (List.mem_append_right tables_1_2 (List.mem_append_left tables_1_4 (List.mem_of_getElem? (i := 132) rfl))))
theorem q612 : (Jvm.Cond.selects "DigitChipModel" ({ cls := "DigitChipModel", name := "thrown", desc := "()I" } : Jvm.MethodName) ({ cls := "DigitChipModel", name := "thrown", desc := "()I" } : Jvm.MethodName)) ∈ zT := zT_in b612 rfl
theorem b613 : (Jvm.Cond.code ({ cls := "DigitChipModel", name := "thrown", desc := "()I" } : Jvm.MethodName) prog_7_method_2_code (1 : Nat) (Option.some Jvm.ClassFile.FieldType.int)) ∈ lw_tbl := zT_tb (List.mem_append_right tables_1_1 (List.mem_append_right tables_1_2 (List.mem_append_left tables_1_4 (List.mem_of_getElem? (i := 133) rfl))))
theorem q613 : (Jvm.Cond.code ({ cls := "DigitChipModel", name := "thrown", desc := "()I" } : Jvm.MethodName) prog_7_method_2_code (1 : Nat) (Option.some Jvm.ClassFile.FieldType.int)) ∈ zT := zT_in b613 rfl
theorem b614 : (Jvm.Cond.methodLink "DigitChipLaw" (62 : Nat) ({ cls := "DigitChipModel", name := "run", desc := "(I)I" } : Jvm.MethodName)) ∈ lw_tbl := zT_tb (List.mem_append_right tables_1_1 (List.mem_append_right tables_1_2 (List.mem_append_left tables_1_4 (List.mem_of_getElem? (i := 134) rfl))))
theorem q614 : (Jvm.Cond.methodLink "DigitChipLaw" (62 : Nat) ({ cls := "DigitChipModel", name := "run", desc := "(I)I" } : Jvm.MethodName)) ∈ zT := zT_in b614 rfl
theorem b615 : (Jvm.Cond.instanceMethod ({ cls := "DigitChipModel", name := "run", desc := "(I)I" } : Jvm.MethodName)) ∈ lw_tbl := zT_tb (List.mem_append_right tables_1_1 (List.mem_append_right tables_1_2 (List.mem_append_left tables_1_4 (List.mem_of_getElem? (i := 135) rfl))))
theorem q615 : (Jvm.Cond.instanceMethod ({ cls := "DigitChipModel", name := "run", desc := "(I)I" } : Jvm.MethodName)) ∈ zT := zT_in b615 rfl
theorem b616 : (Jvm.Cond.selects "DigitChipModel" ({ cls := "DigitChipModel", name := "run", desc := "(I)I" } : Jvm.MethodName) ({ cls := "DigitChipModel", name := "run", desc := "(I)I" } : Jvm.MethodName)) ∈ lw_tbl := zT_tb (List.mem_append_right tables_1_1 (List.mem_append_right tables_1_2 (List.mem_append_left tables_1_4 (List.mem_of_getElem? (i := 136) rfl))))
theorem q616 : (Jvm.Cond.selects "DigitChipModel" ({ cls := "DigitChipModel", name := "run", desc := "(I)I" } : Jvm.MethodName) ({ cls := "DigitChipModel", name := "run", desc := "(I)I" } : Jvm.MethodName)) ∈ zT := zT_in b616 rfl
theorem b617 : (Jvm.Cond.code ({ cls := "DigitChipModel", name := "run", desc := "(I)I" } : Jvm.MethodName) prog_7_method_14_code (3 : Nat) (Option.some Jvm.ClassFile.FieldType.int)) ∈ lw_tbl := zT_tb (List.mem_append_right tables_1_1 (List.mem_append_right tables_1_2 (List.mem_append_left tables_1_4 (List.mem_of_getElem? (i := 137) rfl))))
theorem q617 : (Jvm.Cond.code ({ cls := "DigitChipModel", name := "run", desc := "(I)I" } : Jvm.MethodName) prog_7_method_14_code (3 : Nat) (Option.some Jvm.ClassFile.FieldType.int)) ∈ zT := zT_in b617 rfl
theorem b618 : (Jvm.Cond.methodLink "DigitChipModel" (108 : Nat) ({ cls := "DigitChipModel", name := "step", desc := "()V" } : Jvm.MethodName)) ∈ lw_tbl := zT_tb (List.mem_append_right tables_1_1 (List.mem_append_right tables_1_2 (List.mem_append_left tables_1_4 (List.mem_of_getElem? (i := 138) rfl))))
theorem q618 : (Jvm.Cond.methodLink "DigitChipModel" (108 : Nat) ({ cls := "DigitChipModel", name := "step", desc := "()V" } : Jvm.MethodName)) ∈ zT := zT_in b618 rfl
theorem b619 : (Jvm.Cond.privateMethod ({ cls := "DigitChipModel", name := "step", desc := "()V" } : Jvm.MethodName)) ∈ lw_tbl := zT_tb (List.mem_append_right tables_1_1 (List.mem_append_right tables_1_2 (List.mem_append_left tables_1_4 (List.mem_of_getElem? (i := 139) rfl))))
theorem b620 : (Jvm.Cond.instanceMethod ({ cls := "DigitChipModel", name := "step", desc := "()V" } : Jvm.MethodName)) ∈ lw_tbl := zT_tb (List.mem_append_right tables_1_1 (List.mem_append_right tables_1_2 (List.mem_append_left tables_1_4 (List.mem_of_getElem? (i := 140) rfl))))
theorem q620 : (Jvm.Cond.instanceMethod ({ cls := "DigitChipModel", name := "step", desc := "()V" } : Jvm.MethodName)) ∈ zT := zT_in b620 rfl
theorem b621 : (Jvm.Cond.code ({ cls := "DigitChipModel", name := "step", desc := "()V" } : Jvm.MethodName) prog_7_method_13_code (7 : Nat) (Option.none : Option Jvm.ClassFile.FieldType)) ∈ lw_tbl := zT_tb (List.mem_append_right tables_1_1 (List.mem_append_right tables_1_2 (List.mem_append_left tables_1_4 (List.mem_of_getElem? (i := 141) rfl))))
theorem q621 : (Jvm.Cond.code ({ cls := "DigitChipModel", name := "step", desc := "()V" } : Jvm.MethodName) prog_7_method_13_code (7 : Nat) (Option.none : Option Jvm.ClassFile.FieldType)) ∈ zT := zT_in b621 rfl
theorem b622 : (Jvm.Cond.methodLink "DigitChipModel" (77 : Nat) ({ cls := "DigitChipModel", name := "field", desc := "(I)V" } : Jvm.MethodName)) ∈ lw_tbl := zT_tb (List.mem_append_right tables_1_1 (List.mem_append_right tables_1_2 (List.mem_append_left tables_1_4 (List.mem_of_getElem? (i := 142) rfl))))
theorem q622 : (Jvm.Cond.methodLink "DigitChipModel" (77 : Nat) ({ cls := "DigitChipModel", name := "field", desc := "(I)V" } : Jvm.MethodName)) ∈ zT := zT_in b622 rfl
theorem b623 : (Jvm.Cond.privateMethod ({ cls := "DigitChipModel", name := "field", desc := "(I)V" } : Jvm.MethodName)) ∈ lw_tbl := zT_tb (List.mem_append_right tables_1_1 (List.mem_append_right tables_1_2 (List.mem_append_left tables_1_4 (List.mem_of_getElem? (i := 143) rfl))))
theorem b624 : (Jvm.Cond.instanceMethod ({ cls := "DigitChipModel", name := "field", desc := "(I)V" } : Jvm.MethodName)) ∈ lw_tbl := zT_tb (List.mem_append_right tables_1_1 (List.mem_append_right tables_1_2 (List.mem_append_left tables_1_4 (List.mem_of_getElem? (i := 144) rfl))))
theorem q624 : (Jvm.Cond.instanceMethod ({ cls := "DigitChipModel", name := "field", desc := "(I)V" } : Jvm.MethodName)) ∈ zT := zT_in b624 rfl
theorem b625 : (Jvm.Cond.code ({ cls := "DigitChipModel", name := "field", desc := "(I)V" } : Jvm.MethodName) prog_7_method_3_code (4 : Nat) (Option.none : Option Jvm.ClassFile.FieldType)) ∈ lw_tbl := zT_tb (List.mem_append_right tables_1_1 (List.mem_append_right tables_1_2 (List.mem_append_left tables_1_4 (List.mem_of_getElem? (i := 145) rfl))))
theorem q625 : (Jvm.Cond.code ({ cls := "DigitChipModel", name := "field", desc := "(I)V" } : Jvm.MethodName) prog_7_method_3_code (4 : Nat) (Option.none : Option Jvm.ClassFile.FieldType)) ∈ zT := zT_in b625 rfl
theorem b626 : (Jvm.Cond.methodLink "DigitChipModel" (96 : Nat) ({ cls := "DigitChipModel", name := "move", desc := "(I)V" } : Jvm.MethodName)) ∈ lw_tbl := zT_tb (List.mem_append_right tables_1_1 (List.mem_append_right tables_1_2 (List.mem_append_left tables_1_4 (List.mem_of_getElem? (i := 146) rfl))))
theorem q626 : (Jvm.Cond.methodLink "DigitChipModel" (96 : Nat) ({ cls := "DigitChipModel", name := "move", desc := "(I)V" } : Jvm.MethodName)) ∈ zT := zT_in b626 rfl
theorem b627 : (Jvm.Cond.privateMethod ({ cls := "DigitChipModel", name := "move", desc := "(I)V" } : Jvm.MethodName)) ∈ lw_tbl := zT_tb (List.mem_append_right tables_1_1 (List.mem_append_right tables_1_2 (List.mem_append_left tables_1_4 (List.mem_of_getElem? (i := 147) rfl))))
theorem b628 : (Jvm.Cond.instanceMethod ({ cls := "DigitChipModel", name := "move", desc := "(I)V" } : Jvm.MethodName)) ∈ lw_tbl := zT_tb (List.mem_append_right tables_1_1 (List.mem_append_right tables_1_2 (List.mem_append_left tables_1_4 (List.mem_of_getElem? (i := 148) rfl))))
theorem q628 : (Jvm.Cond.instanceMethod ({ cls := "DigitChipModel", name := "move", desc := "(I)V" } : Jvm.MethodName)) ∈ zT := zT_in b628 rfl
theorem b629 : (Jvm.Cond.code ({ cls := "DigitChipModel", name := "move", desc := "(I)V" } : Jvm.MethodName) prog_7_method_8_code (2 : Nat) (Option.none : Option Jvm.ClassFile.FieldType)) ∈ lw_tbl := zT_tb (List.mem_append_right tables_1_1 (List.mem_append_right tables_1_2 (List.mem_append_left tables_1_4 (List.mem_of_getElem? (i := 149) rfl))))
theorem q629 : (Jvm.Cond.code ({ cls := "DigitChipModel", name := "move", desc := "(I)V" } : Jvm.MethodName) prog_7_method_8_code (2 : Nat) (Option.none : Option Jvm.ClassFile.FieldType)) ∈ zT := zT_in b629 rfl
theorem b630 : (Jvm.Cond.methodLink "DigitChipModel" (63 : Nat) ({ cls := "DigitChipModel", name := "write", desc := "(IJ)V" } : Jvm.MethodName)) ∈ lw_tbl := zT_tb (List.mem_append_right tables_1_1 (List.mem_append_right tables_1_2 (List.mem_append_left tables_1_4 (List.mem_of_getElem? (i := 150) rfl))))
theorem q630 : (Jvm.Cond.methodLink "DigitChipModel" (63 : Nat) ({ cls := "DigitChipModel", name := "write", desc := "(IJ)V" } : Jvm.MethodName)) ∈ zT := zT_in b630 rfl
theorem b631 : (Jvm.Cond.privateMethod ({ cls := "DigitChipModel", name := "write", desc := "(IJ)V" } : Jvm.MethodName)) ∈ lw_tbl := zT_tb (List.mem_append_right tables_1_1 (List.mem_append_right tables_1_2 (List.mem_append_left tables_1_4 (List.mem_of_getElem? (i := 151) rfl))))
theorem b632 : (Jvm.Cond.instanceMethod ({ cls := "DigitChipModel", name := "write", desc := "(IJ)V" } : Jvm.MethodName)) ∈ lw_tbl := zT_tb (List.mem_append_right tables_1_1 (List.mem_append_right tables_1_2 (List.mem_append_left tables_1_4 (List.mem_of_getElem? (i := 152) rfl))))
theorem q632 : (Jvm.Cond.instanceMethod ({ cls := "DigitChipModel", name := "write", desc := "(IJ)V" } : Jvm.MethodName)) ∈ zT := zT_in b632 rfl
theorem b633 : (Jvm.Cond.code ({ cls := "DigitChipModel", name := "write", desc := "(IJ)V" } : Jvm.MethodName) prog_7_method_5_code (4 : Nat) (Option.none : Option Jvm.ClassFile.FieldType)) ∈ lw_tbl := zT_tb (List.mem_append_right tables_1_1 (List.mem_append_right tables_1_2 (List.mem_append_left tables_1_4 (List.mem_of_getElem? (i := 153) rfl))))
theorem q633 : (Jvm.Cond.code ({ cls := "DigitChipModel", name := "write", desc := "(IJ)V" } : Jvm.MethodName) prog_7_method_5_code (4 : Nat) (Option.none : Option Jvm.ClassFile.FieldType)) ∈ zT := zT_in b633 rfl
theorem b634 : (Jvm.Cond.methodLink "DigitChipModel" (55 : Nat) ({ cls := "DigitChipModel", name := "part", desc := "(I)J" } : Jvm.MethodName)) ∈ lw_tbl := zT_tb (List.mem_append_right tables_1_1 (List.mem_append_right tables_1_2 (List.mem_append_left tables_1_4 (List.mem_of_getElem? (i := 154) rfl))))
theorem q634 : (Jvm.Cond.methodLink "DigitChipModel" (55 : Nat) ({ cls := "DigitChipModel", name := "part", desc := "(I)J" } : Jvm.MethodName)) ∈ zT := zT_in b634 rfl
theorem b635 : (Jvm.Cond.privateMethod ({ cls := "DigitChipModel", name := "part", desc := "(I)J" } : Jvm.MethodName)) ∈ lw_tbl := zT_tb (List.mem_append_right tables_1_1 (List.mem_append_right tables_1_2 (List.mem_append_left tables_1_4 (List.mem_of_getElem? (i := 155) rfl))))
theorem b636 : (Jvm.Cond.instanceMethod ({ cls := "DigitChipModel", name := "part", desc := "(I)J" } : Jvm.MethodName)) ∈ lw_tbl := zT_tb (List.mem_append_right tables_1_1 (List.mem_append_right tables_1_2 (List.mem_append_left tables_1_4 (List.mem_of_getElem? (i := 156) rfl))))
theorem q636 : (Jvm.Cond.instanceMethod ({ cls := "DigitChipModel", name := "part", desc := "(I)J" } : Jvm.MethodName)) ∈ zT := zT_in b636 rfl
theorem b637 : (Jvm.Cond.code ({ cls := "DigitChipModel", name := "part", desc := "(I)J" } : Jvm.MethodName) prog_7_method_4_code (2 : Nat) (Option.some Jvm.ClassFile.FieldType.long)) ∈ lw_tbl := zT_tb (List.mem_append_right tables_1_1 (List.mem_append_right tables_1_2 (List.mem_append_left tables_1_4 (List.mem_of_getElem? (i := 157) rfl))))
theorem q637 : (Jvm.Cond.code ({ cls := "DigitChipModel", name := "part", desc := "(I)J" } : Jvm.MethodName) prog_7_method_4_code (2 : Nat) (Option.some Jvm.ClassFile.FieldType.long)) ∈ zT := zT_in b637 rfl
theorem b638 : (Jvm.Cond.methodLink "DigitChipModel" (67 : Nat) ({ cls := "DigitChipModel", name := "change", desc := "(II)V" } : Jvm.MethodName)) ∈ lw_tbl := zT_tb (List.mem_append_right tables_1_1 (List.mem_append_right tables_1_2 (List.mem_append_left tables_1_4 (List.mem_of_getElem? (i := 158) rfl))))
theorem q638 : (Jvm.Cond.methodLink "DigitChipModel" (67 : Nat) ({ cls := "DigitChipModel", name := "change", desc := "(II)V" } : Jvm.MethodName)) ∈ zT := zT_in b638 rfl
theorem b639 : (Jvm.Cond.privateMethod ({ cls := "DigitChipModel", name := "change", desc := "(II)V" } : Jvm.MethodName)) ∈ lw_tbl := zT_tb (List.mem_append_right tables_1_1 (List.mem_append_right tables_1_2 (List.mem_append_left tables_1_4 (List.mem_of_getElem? (i := 159) rfl))))
theorem b640 : (Jvm.Cond.instanceMethod ({ cls := "DigitChipModel", name := "change", desc := "(II)V" } : Jvm.MethodName)) ∈ lw_tbl := zT_tb (List.mem_append_right tables_1_1 (List.mem_append_right tables_1_2 (List.mem_append_left tables_1_4 (List.mem_of_getElem? (i := 160) rfl))))
theorem q640 : (Jvm.Cond.instanceMethod ({ cls := "DigitChipModel", name := "change", desc := "(II)V" } : Jvm.MethodName)) ∈ zT := zT_in b640 rfl
theorem b641 : (Jvm.Cond.code ({ cls := "DigitChipModel", name := "change", desc := "(II)V" } : Jvm.MethodName) prog_7_method_7_code (5 : Nat) (Option.none : Option Jvm.ClassFile.FieldType)) ∈ lw_tbl := zT_tb (List.mem_append_right tables_1_1 (List.mem_append_right tables_1_2 (List.mem_append_left tables_1_4 (List.mem_of_getElem? (i := 161) rfl))))
theorem q641 : (Jvm.Cond.code ({ cls := "DigitChipModel", name := "change", desc := "(II)V" } : Jvm.MethodName) prog_7_method_7_code (5 : Nat) (Option.none : Option Jvm.ClassFile.FieldType)) ∈ zT := zT_in b641 rfl
theorem b642 : (Jvm.Cond.methodLink "DigitChipModel" (99 : Nat) ({ cls := "DigitChipModel", name := "reckon", desc := "(I)V" } : Jvm.MethodName)) ∈ lw_tbl := zT_tb (List.mem_append_right tables_1_1 (List.mem_append_right tables_1_2 (List.mem_append_left tables_1_4 (List.mem_of_getElem? (i := 162) rfl))))
theorem q642 : (Jvm.Cond.methodLink "DigitChipModel" (99 : Nat) ({ cls := "DigitChipModel", name := "reckon", desc := "(I)V" } : Jvm.MethodName)) ∈ zT := zT_in b642 rfl
theorem b643 : (Jvm.Cond.privateMethod ({ cls := "DigitChipModel", name := "reckon", desc := "(I)V" } : Jvm.MethodName)) ∈ lw_tbl := zT_tb (List.mem_append_right tables_1_1 (List.mem_append_right tables_1_2 (List.mem_append_left tables_1_4 (List.mem_of_getElem? (i := 163) rfl))))
theorem b644 : (Jvm.Cond.instanceMethod ({ cls := "DigitChipModel", name := "reckon", desc := "(I)V" } : Jvm.MethodName)) ∈ lw_tbl := zT_tb (List.mem_append_right tables_1_1 (List.mem_append_right tables_1_2 (List.mem_append_left tables_1_4 (List.mem_of_getElem? (i := 164) rfl))))
theorem q644 : (Jvm.Cond.instanceMethod ({ cls := "DigitChipModel", name := "reckon", desc := "(I)V" } : Jvm.MethodName)) ∈ zT := zT_in b644 rfl
theorem b645 : (Jvm.Cond.code ({ cls := "DigitChipModel", name := "reckon", desc := "(I)V" } : Jvm.MethodName) prog_7_method_9_code (8 : Nat) (Option.none : Option Jvm.ClassFile.FieldType)) ∈ lw_tbl := zT_tb (List.mem_append_right tables_1_1 (List.mem_append_right tables_1_2 (List.mem_append_left tables_1_4 (List.mem_of_getElem? (i := 165) rfl))))
theorem q645 : (Jvm.Cond.code ({ cls := "DigitChipModel", name := "reckon", desc := "(I)V" } : Jvm.MethodName) prog_7_method_9_code (8 : Nat) (Option.none : Option Jvm.ClassFile.FieldType)) ∈ zT := zT_in b645 rfl
theorem b646 : (Jvm.Cond.methodLink "DigitChipModel" (71 : Nat) ({ cls := "DigitChipModel", name := "become", desc := "(IJ)V" } : Jvm.MethodName)) ∈ lw_tbl := zT_tb (List.mem_append_right tables_1_1 (List.mem_append_right tables_1_2 (List.mem_append_left tables_1_4 (List.mem_of_getElem? (i := 166) rfl))))
theorem q646 : (Jvm.Cond.methodLink "DigitChipModel" (71 : Nat) ({ cls := "DigitChipModel", name := "become", desc := "(IJ)V" } : Jvm.MethodName)) ∈ zT := zT_in b646 rfl
theorem b647 : (Jvm.Cond.privateMethod ({ cls := "DigitChipModel", name := "become", desc := "(IJ)V" } : Jvm.MethodName)) ∈ lw_tbl := zT_tb (List.mem_append_right tables_1_1 (List.mem_append_right tables_1_2 (List.mem_append_left tables_1_4 (List.mem_of_getElem? (i := 167) rfl))))
theorem b648 : (Jvm.Cond.instanceMethod ({ cls := "DigitChipModel", name := "become", desc := "(IJ)V" } : Jvm.MethodName)) ∈ lw_tbl := zT_tb (List.mem_append_right tables_1_1 (List.mem_append_right tables_1_2 (List.mem_append_left tables_1_4 (List.mem_of_getElem? (i := 168) rfl))))
theorem q648 : (Jvm.Cond.instanceMethod ({ cls := "DigitChipModel", name := "become", desc := "(IJ)V" } : Jvm.MethodName)) ∈ zT := zT_in b648 rfl
theorem b649 : (Jvm.Cond.code ({ cls := "DigitChipModel", name := "become", desc := "(IJ)V" } : Jvm.MethodName) prog_7_method_6_code (4 : Nat) (Option.none : Option Jvm.ClassFile.FieldType)) ∈ lw_tbl := zT_tb (List.mem_append_right tables_1_1 (List.mem_append_right tables_1_2 (List.mem_append_left tables_1_4 (List.mem_of_getElem? (i := 169) rfl))))
theorem q649 : (Jvm.Cond.code ({ cls := "DigitChipModel", name := "become", desc := "(IJ)V" } : Jvm.MethodName) prog_7_method_6_code (4 : Nat) (Option.none : Option Jvm.ClassFile.FieldType)) ∈ zT := zT_in b649 rfl
theorem b650 : (Jvm.Cond.methodLink "DigitChipModel" (102 : Nat) ({ cls := "DigitChipModel", name := "mark", desc := "(II)V" } : Jvm.MethodName)) ∈ lw_tbl := zT_tb (List.mem_append_right tables_1_1 (List.mem_append_right tables_1_2 (List.mem_append_left tables_1_4 (List.mem_of_getElem? (i := 170) rfl))))
theorem q650 : (Jvm.Cond.methodLink "DigitChipModel" (102 : Nat) ({ cls := "DigitChipModel", name := "mark", desc := "(II)V" } : Jvm.MethodName)) ∈ zT := zT_in b650 rfl
theorem b651 : (Jvm.Cond.privateMethod ({ cls := "DigitChipModel", name := "mark", desc := "(II)V" } : Jvm.MethodName)) ∈ lw_tbl := zT_tb (List.mem_append_right tables_1_1 (List.mem_append_right tables_1_2 (List.mem_append_left tables_1_4 (List.mem_of_getElem? (i := 171) rfl))))
theorem b652 : (Jvm.Cond.instanceMethod ({ cls := "DigitChipModel", name := "mark", desc := "(II)V" } : Jvm.MethodName)) ∈ lw_tbl := zT_tb (List.mem_append_right tables_1_1 (List.mem_append_right tables_1_2 (List.mem_append_left tables_1_4 (List.mem_of_getElem? (i := 172) rfl))))
theorem q652 : (Jvm.Cond.instanceMethod ({ cls := "DigitChipModel", name := "mark", desc := "(II)V" } : Jvm.MethodName)) ∈ zT := zT_in b652 rfl
theorem b653 : (Jvm.Cond.code ({ cls := "DigitChipModel", name := "mark", desc := "(II)V" } : Jvm.MethodName) prog_7_method_10_code (3 : Nat) (Option.none : Option Jvm.ClassFile.FieldType)) ∈ lw_tbl := zT_tb (List.mem_append_right tables_1_1 (List.mem_append_right tables_1_2 (List.mem_append_left tables_1_4 (List.mem_of_getElem? (i := 173) rfl))))
theorem q653 : (Jvm.Cond.code ({ cls := "DigitChipModel", name := "mark", desc := "(II)V" } : Jvm.MethodName) prog_7_method_10_code (3 : Nat) (Option.none : Option Jvm.ClassFile.FieldType)) ∈ zT := zT_in b653 rfl
theorem b654 : (Jvm.Cond.methodLink "DigitChipModel" (105 : Nat) ({ cls := "DigitChipModel", name := "turn", desc := "(II)V" } : Jvm.MethodName)) ∈ lw_tbl := zT_tb (List.mem_append_right tables_1_1 (List.mem_append_right tables_1_2 (List.mem_append_left tables_1_4 (List.mem_of_getElem? (i := 174) rfl))))
theorem q654 : (Jvm.Cond.methodLink "DigitChipModel" (105 : Nat) ({ cls := "DigitChipModel", name := "turn", desc := "(II)V" } : Jvm.MethodName)) ∈ zT := zT_in b654 rfl
theorem b655 : (Jvm.Cond.privateMethod ({ cls := "DigitChipModel", name := "turn", desc := "(II)V" } : Jvm.MethodName)) ∈ lw_tbl := zT_tb (List.mem_append_right tables_1_1 (List.mem_append_right tables_1_2 (List.mem_append_left tables_1_4 (List.mem_of_getElem? (i := 175) rfl))))
theorem b656 : (Jvm.Cond.instanceMethod ({ cls := "DigitChipModel", name := "turn", desc := "(II)V" } : Jvm.MethodName)) ∈ lw_tbl := zT_tb (List.mem_append_right tables_1_1 (List.mem_append_right tables_1_2 (List.mem_append_left tables_1_4 (List.mem_of_getElem? (i := 176) rfl))))
theorem q656 : (Jvm.Cond.instanceMethod ({ cls := "DigitChipModel", name := "turn", desc := "(II)V" } : Jvm.MethodName)) ∈ zT := zT_in b656 rfl
theorem b657 : (Jvm.Cond.code ({ cls := "DigitChipModel", name := "turn", desc := "(II)V" } : Jvm.MethodName) prog_7_method_11_code (5 : Nat) (Option.none : Option Jvm.ClassFile.FieldType)) ∈ lw_tbl := zT_tb (List.mem_append_right tables_1_1 (List.mem_append_right tables_1_2 (List.mem_append_left tables_1_4 (List.mem_of_getElem? (i := 177) rfl))))
theorem q657 : (Jvm.Cond.code ({ cls := "DigitChipModel", name := "turn", desc := "(II)V" } : Jvm.MethodName) prog_7_method_11_code (5 : Nat) (Option.none : Option Jvm.ClassFile.FieldType)) ∈ zT := zT_in b657 rfl
theorem b658 : (Jvm.Cond.methodLink "DigitChipModel" (87 : Nat) ({ cls := "DigitChipModel", name := "pick", desc := "(I)V" } : Jvm.MethodName)) ∈ lw_tbl := zT_tb (List.mem_append_right tables_1_1 (List.mem_append_right tables_1_2 (List.mem_append_left tables_1_4 (List.mem_of_getElem? (i := 178) rfl))))
theorem q658 : (Jvm.Cond.methodLink "DigitChipModel" (87 : Nat) ({ cls := "DigitChipModel", name := "pick", desc := "(I)V" } : Jvm.MethodName)) ∈ zT := zT_in b658 rfl
theorem b659 : (Jvm.Cond.privateMethod ({ cls := "DigitChipModel", name := "pick", desc := "(I)V" } : Jvm.MethodName)) ∈ lw_tbl := zT_tb (List.mem_append_right tables_1_1 (List.mem_append_right tables_1_2 (List.mem_append_left tables_1_4 (List.mem_of_getElem? (i := 179) rfl))))
theorem b660 : (Jvm.Cond.instanceMethod ({ cls := "DigitChipModel", name := "pick", desc := "(I)V" } : Jvm.MethodName)) ∈ lw_tbl := zT_tb (List.mem_append_right tables_1_1 (List.mem_append_right tables_1_2 (List.mem_append_left tables_1_4 (List.mem_of_getElem? (i := 180) rfl))))
theorem q660 : (Jvm.Cond.instanceMethod ({ cls := "DigitChipModel", name := "pick", desc := "(I)V" } : Jvm.MethodName)) ∈ zT := zT_in b660 rfl
theorem b661 : (Jvm.Cond.code ({ cls := "DigitChipModel", name := "pick", desc := "(I)V" } : Jvm.MethodName) prog_7_method_12_code (2 : Nat) (Option.none : Option Jvm.ClassFile.FieldType)) ∈ lw_tbl := zT_tb (List.mem_append_right tables_1_1 (List.mem_append_right tables_1_2 (List.mem_append_left tables_1_4 (List.mem_of_getElem? (i := 181) rfl))))
theorem q661 : (Jvm.Cond.code ({ cls := "DigitChipModel", name := "pick", desc := "(I)V" } : Jvm.MethodName) prog_7_method_12_code (2 : Nat) (Option.none : Option Jvm.ClassFile.FieldType)) ∈ zT := zT_in b661 rfl
theorem b662 : (Jvm.Cond.methodLink "DigitChipLaw" (27 : Nat) ({ cls := "DigitChipModel", name := "type", desc := "(C)Z" } : Jvm.MethodName)) ∈ lw_tbl := zT_tb (List.mem_append_right tables_1_1 (List.mem_append_right tables_1_2 (List.mem_append_left tables_1_4 (List.mem_of_getElem? (i := 182) rfl))))
theorem q662 : (Jvm.Cond.methodLink "DigitChipLaw" (27 : Nat) ({ cls := "DigitChipModel", name := "type", desc := "(C)Z" } : Jvm.MethodName)) ∈ zT := zT_in b662 rfl
theorem b663 : (Jvm.Cond.instanceMethod ({ cls := "DigitChipModel", name := "type", desc := "(C)Z" } : Jvm.MethodName)) ∈ lw_tbl := zT_tb (List.mem_append_right tables_1_1 (List.mem_append_right tables_1_2 (List.mem_append_left tables_1_4 (List.mem_of_getElem? (i := 183) rfl))))
theorem q663 : (Jvm.Cond.instanceMethod ({ cls := "DigitChipModel", name := "type", desc := "(C)Z" } : Jvm.MethodName)) ∈ zT := zT_in b663 rfl
theorem b664 : (Jvm.Cond.selects "DigitChipModel" ({ cls := "DigitChipModel", name := "type", desc := "(C)Z" } : Jvm.MethodName) ({ cls := "DigitChipModel", name := "type", desc := "(C)Z" } : Jvm.MethodName)) ∈ lw_tbl := zT_tb (List.mem_append_right tables_1_1 (List.mem_append_right tables_1_2 (List.mem_append_left tables_1_4 (List.mem_of_getElem? (i := 184) rfl))))
theorem q664 : (Jvm.Cond.selects "DigitChipModel" ({ cls := "DigitChipModel", name := "type", desc := "(C)Z" } : Jvm.MethodName) ({ cls := "DigitChipModel", name := "type", desc := "(C)Z" } : Jvm.MethodName)) ∈ zT := zT_in b664 rfl
theorem b665 : (Jvm.Cond.code ({ cls := "DigitChipModel", name := "type", desc := "(C)Z" } : Jvm.MethodName) prog_7_method_24_code (2 : Nat) (Option.some Jvm.ClassFile.FieldType.boolean)) ∈ lw_tbl := zT_tb (List.mem_append_right tables_1_1 (List.mem_append_right tables_1_2 (List.mem_append_left tables_1_4 (List.mem_of_getElem? (i := 185) rfl))))
theorem q665 : (Jvm.Cond.code ({ cls := "DigitChipModel", name := "type", desc := "(C)Z" } : Jvm.MethodName) prog_7_method_24_code (2 : Nat) (Option.some Jvm.ClassFile.FieldType.boolean)) ∈ zT := zT_in b665 rfl
theorem b666 : (Jvm.Cond.methodLink "DigitChipLaw" (33 : Nat) ({ cls := "DigitChipModel", name := "assemble", desc := "()I" } : Jvm.MethodName)) ∈ lw_tbl := zT_tb (List.mem_append_right tables_1_1 (List.mem_append_right tables_1_2 (List.mem_append_left tables_1_4 (List.mem_of_getElem? (i := 186) rfl))))
theorem q666 : (Jvm.Cond.methodLink "DigitChipLaw" (33 : Nat) ({ cls := "DigitChipModel", name := "assemble", desc := "()I" } : Jvm.MethodName)) ∈ zT := zT_in b666 rfl
theorem b667 : (Jvm.Cond.instanceMethod ({ cls := "DigitChipModel", name := "assemble", desc := "()I" } : Jvm.MethodName)) ∈ lw_tbl := zT_tb (List.mem_append_right tables_1_1 (List.mem_append_right tables_1_2 (List.mem_append_left tables_1_4 (List.mem_of_getElem? (i := 187) rfl))))
theorem q667 : (Jvm.Cond.instanceMethod ({ cls := "DigitChipModel", name := "assemble", desc := "()I" } : Jvm.MethodName)) ∈ zT := zT_in b667 rfl
theorem b668 : (Jvm.Cond.selects "DigitChipModel" ({ cls := "DigitChipModel", name := "assemble", desc := "()I" } : Jvm.MethodName) ({ cls := "DigitChipModel", name := "assemble", desc := "()I" } : Jvm.MethodName)) ∈ lw_tbl := zT_tb (List.mem_append_right tables_1_1 (List.mem_append_right tables_1_2 (List.mem_append_left tables_1_4 (List.mem_of_getElem? (i := 188) rfl))))
theorem q668 : (Jvm.Cond.selects "DigitChipModel" ({ cls := "DigitChipModel", name := "assemble", desc := "()I" } : Jvm.MethodName) ({ cls := "DigitChipModel", name := "assemble", desc := "()I" } : Jvm.MethodName)) ∈ zT := zT_in b668 rfl
theorem b669 : (Jvm.Cond.code ({ cls := "DigitChipModel", name := "assemble", desc := "()I" } : Jvm.MethodName) prog_7_method_25_code (2 : Nat) (Option.some Jvm.ClassFile.FieldType.int)) ∈ lw_tbl := zT_tb (List.mem_append_right tables_1_1 (List.mem_append_right tables_1_2 (List.mem_append_left tables_1_4 (List.mem_of_getElem? (i := 189) rfl))))
theorem q669 : (Jvm.Cond.code ({ cls := "DigitChipModel", name := "assemble", desc := "()I" } : Jvm.MethodName) prog_7_method_25_code (2 : Nat) (Option.some Jvm.ClassFile.FieldType.int)) ∈ zT := zT_in b669 rfl
theorem b670 : (Jvm.Cond.methodLink "DigitChipModel" (242 : Nat) ({ cls := "DigitChipModel", name := "read", desc := "()I" } : Jvm.MethodName)) ∈ lw_tbl := zT_tb (List.mem_append_right tables_1_1 (List.mem_append_right tables_1_2 (List.mem_append_left tables_1_4 (List.mem_of_getElem? (i := 190) rfl))))
theorem q670 : (Jvm.Cond.methodLink "DigitChipModel" (242 : Nat) ({ cls := "DigitChipModel", name := "read", desc := "()I" } : Jvm.MethodName)) ∈ zT := zT_in b670 rfl
theorem b671 : (Jvm.Cond.privateMethod ({ cls := "DigitChipModel", name := "read", desc := "()I" } : Jvm.MethodName)) ∈ lw_tbl := zT_tb (List.mem_append_right tables_1_1 (List.mem_append_right tables_1_2 (List.mem_append_left tables_1_4 (List.mem_of_getElem? (i := 191) rfl))))
theorem b672 : (Jvm.Cond.instanceMethod ({ cls := "DigitChipModel", name := "read", desc := "()I" } : Jvm.MethodName)) ∈ lw_tbl := zT_tb (List.mem_append_right tables_1_1 (List.mem_append_right tables_1_2 (List.mem_append_left tables_1_4 (List.mem_of_getElem? (i := 192) rfl))))
theorem q672 : (Jvm.Cond.instanceMethod ({ cls := "DigitChipModel", name := "read", desc := "()I" } : Jvm.MethodName)) ∈ zT := zT_in b672 rfl
theorem b673 : (Jvm.Cond.code ({ cls := "DigitChipModel", name := "read", desc := "()I" } : Jvm.MethodName) prog_7_method_23_code (4 : Nat) (Option.some Jvm.ClassFile.FieldType.int)) ∈ lw_tbl := zT_tb (List.mem_append_right tables_1_1 (List.mem_append_right tables_1_2 (List.mem_append_left tables_1_4 (List.mem_of_getElem? (i := 193) rfl))))
theorem q673 : (Jvm.Cond.code ({ cls := "DigitChipModel", name := "read", desc := "()I" } : Jvm.MethodName) prog_7_method_23_code (4 : Nat) (Option.some Jvm.ClassFile.FieldType.int)) ∈ zT := zT_in b673 rfl
theorem b674 : (Jvm.Cond.methodLink "DigitChipModel" (238 : Nat) ({ cls := "DigitChipModel", name := "take", desc := "(II)Z" } : Jvm.MethodName)) ∈ lw_tbl := zT_tb (List.mem_append_right tables_1_1 (List.mem_append_right tables_1_2 (List.mem_append_left tables_1_4 (List.mem_of_getElem? (i := 194) rfl))))
theorem q674 : (Jvm.Cond.methodLink "DigitChipModel" (238 : Nat) ({ cls := "DigitChipModel", name := "take", desc := "(II)Z" } : Jvm.MethodName)) ∈ zT := zT_in b674 rfl
theorem b675 : (Jvm.Cond.privateMethod ({ cls := "DigitChipModel", name := "take", desc := "(II)Z" } : Jvm.MethodName)) ∈ lw_tbl := zT_tb (List.mem_append_right tables_1_1 (List.mem_append_right tables_1_2 (List.mem_append_left tables_1_4 (List.mem_of_getElem? (i := 195) rfl))))
theorem b676 : (Jvm.Cond.instanceMethod ({ cls := "DigitChipModel", name := "take", desc := "(II)Z" } : Jvm.MethodName)) ∈ lw_tbl := zT_tb (List.mem_append_right tables_1_1 (List.mem_append_right tables_1_2 (List.mem_append_left tables_1_4 (List.mem_of_getElem? (i := 196) rfl))))
theorem q676 : (Jvm.Cond.instanceMethod ({ cls := "DigitChipModel", name := "take", desc := "(II)Z" } : Jvm.MethodName)) ∈ zT := zT_in b676 rfl
theorem b677 : (Jvm.Cond.code ({ cls := "DigitChipModel", name := "take", desc := "(II)Z" } : Jvm.MethodName) prog_7_method_22_code (6 : Nat) (Option.some Jvm.ClassFile.FieldType.boolean)) ∈ lw_tbl := zT_tb (List.mem_append_right tables_1_1 (List.mem_append_right tables_1_2 (List.mem_append_left tables_1_4 (List.mem_of_getElem? (i := 197) rfl))))
theorem q677 : (Jvm.Cond.code ({ cls := "DigitChipModel", name := "take", desc := "(II)Z" } : Jvm.MethodName) prog_7_method_22_code (6 : Nat) (Option.some Jvm.ClassFile.FieldType.boolean)) ∈ zT := zT_in b677 rfl
theorem b678 : (Jvm.Cond.methodLink "DigitChipModel" (231 : Nat) ({ cls := "DigitChipModel", name := "wordOf", desc := "(II)I" } : Jvm.MethodName)) ∈ lw_tbl := zT_tb (List.mem_append_right tables_1_1 (List.mem_append_right tables_1_2 (List.mem_append_left tables_1_4 (List.mem_of_getElem? (i := 198) rfl))))
theorem q678 : (Jvm.Cond.methodLink "DigitChipModel" (231 : Nat) ({ cls := "DigitChipModel", name := "wordOf", desc := "(II)I" } : Jvm.MethodName)) ∈ zT := zT_in b678 rfl
theorem b679 : (Jvm.Cond.privateMethod ({ cls := "DigitChipModel", name := "wordOf", desc := "(II)I" } : Jvm.MethodName)) ∈ lw_tbl := zT_tb (List.mem_append_right tables_1_1 (List.mem_append_right tables_1_2 (List.mem_append_left tables_1_4 (List.mem_of_getElem? (i := 199) rfl))))
theorem b680 : (Jvm.Cond.instanceMethod ({ cls := "DigitChipModel", name := "wordOf", desc := "(II)I" } : Jvm.MethodName)) ∈ lw_tbl := zT_tb (List.mem_append_right tables_1_1 (List.mem_append_right tables_1_2 (List.mem_append_left tables_1_4 (List.mem_of_getElem? (i := 200) rfl))))
theorem q680 : (Jvm.Cond.instanceMethod ({ cls := "DigitChipModel", name := "wordOf", desc := "(II)I" } : Jvm.MethodName)) ∈ zT := zT_in b680 rfl
theorem b681 : (Jvm.Cond.code ({ cls := "DigitChipModel", name := "wordOf", desc := "(II)I" } : Jvm.MethodName) prog_7_method_21_code (7 : Nat) (Option.some Jvm.ClassFile.FieldType.int)) ∈ lw_tbl := zT_tb (List.mem_append_right tables_1_1 (List.mem_append_right tables_1_2 (List.mem_append_left tables_1_4 (List.mem_of_getElem? (i := 201) rfl))))
theorem q681 : (Jvm.Cond.code ({ cls := "DigitChipModel", name := "wordOf", desc := "(II)I" } : Jvm.MethodName) prog_7_method_21_code (7 : Nat) (Option.some Jvm.ClassFile.FieldType.int)) ∈ zT := zT_in b681 rfl
theorem b682 : (Jvm.Cond.methodLink "DigitChipModel" (207 : Nat) ({ cls := "DigitChipModel", name := "numberAt", desc := "(I)I" } : Jvm.MethodName)) ∈ lw_tbl := zT_tb (List.mem_append_right tables_1_1 (List.mem_append_right tables_1_2 (List.mem_append_left tables_1_4 (List.mem_of_getElem? (i := 202) rfl))))
theorem q682 : (Jvm.Cond.methodLink "DigitChipModel" (207 : Nat) ({ cls := "DigitChipModel", name := "numberAt", desc := "(I)I" } : Jvm.MethodName)) ∈ zT := zT_in b682 rfl
theorem b683 : (Jvm.Cond.static ({ cls := "DigitChipModel", name := "numberAt", desc := "(I)I" } : Jvm.MethodName)) ∈ lw_tbl := zT_tb (List.mem_append_right tables_1_1 (List.mem_append_right tables_1_2 (List.mem_append_left tables_1_4 (List.mem_of_getElem? (i := 203) rfl))))
theorem q683 : (Jvm.Cond.static ({ cls := "DigitChipModel", name := "numberAt", desc := "(I)I" } : Jvm.MethodName)) ∈ zT := zT_in b683 rfl
theorem b684 : (Jvm.Cond.code ({ cls := "DigitChipModel", name := "numberAt", desc := "(I)I" } : Jvm.MethodName) prog_7_method_17_code (1 : Nat) (Option.some Jvm.ClassFile.FieldType.int)) ∈ lw_tbl := zT_tb (List.mem_append_right tables_1_1 (List.mem_append_right tables_1_2 (List.mem_append_left tables_1_4 (List.mem_of_getElem? (i := 204) rfl))))
theorem q684 : (Jvm.Cond.code ({ cls := "DigitChipModel", name := "numberAt", desc := "(I)I" } : Jvm.MethodName) prog_7_method_17_code (1 : Nat) (Option.some Jvm.ClassFile.FieldType.int)) ∈ zT := zT_in b684 rfl
theorem b685 : (Jvm.Cond.methodLink "DigitChipModel" (211 : Nat) ({ cls := "DigitChipModel", name := "name", desc := "(III)J" } : Jvm.MethodName)) ∈ lw_tbl := zT_tb (List.mem_append_right tables_1_1 (List.mem_append_right tables_1_2 (List.mem_append_left tables_1_4 (List.mem_of_getElem? (i := 205) rfl))))
theorem q685 : (Jvm.Cond.methodLink "DigitChipModel" (211 : Nat) ({ cls := "DigitChipModel", name := "name", desc := "(III)J" } : Jvm.MethodName)) ∈ zT := zT_in b685 rfl
theorem b686 : (Jvm.Cond.privateMethod ({ cls := "DigitChipModel", name := "name", desc := "(III)J" } : Jvm.MethodName)) ∈ lw_tbl := zT_tb (List.mem_append_right tables_1_1 (List.mem_append_right tables_1_2 (List.mem_append_left tables_1_4 (List.mem_of_getElem? (i := 206) rfl))))
theorem b687 : (Jvm.Cond.instanceMethod ({ cls := "DigitChipModel", name := "name", desc := "(III)J" } : Jvm.MethodName)) ∈ lw_tbl := zT_tb (List.mem_append_right tables_1_1 (List.mem_append_right tables_1_2 (List.mem_append_left tables_1_4 (List.mem_of_getElem? (i := 207) rfl))))
theorem q687 : (Jvm.Cond.instanceMethod ({ cls := "DigitChipModel", name := "name", desc := "(III)J" } : Jvm.MethodName)) ∈ zT := zT_in b687 rfl
theorem b688 : (Jvm.Cond.code ({ cls := "DigitChipModel", name := "name", desc := "(III)J" } : Jvm.MethodName) prog_7_method_19_code (7 : Nat) (Option.some Jvm.ClassFile.FieldType.long)) ∈ lw_tbl := zT_tb (List.mem_append_right tables_1_1 (List.mem_append_right tables_1_2 (List.mem_append_left tables_1_4 (List.mem_of_getElem? (i := 208) rfl))))
theorem q688 : (Jvm.Cond.code ({ cls := "DigitChipModel", name := "name", desc := "(III)J" } : Jvm.MethodName) prog_7_method_19_code (7 : Nat) (Option.some Jvm.ClassFile.FieldType.long)) ∈ zT := zT_in b688 rfl
theorem b689 : (Jvm.Cond.methodLink "DigitChipModel" (215 : Nat) ({ cls := "DigitChipModel", name := "control", desc := "(I)J" } : Jvm.MethodName)) ∈ lw_tbl := zT_tb (List.mem_append_right tables_1_1 (List.mem_append_right tables_1_2 (List.mem_append_left tables_1_4 (List.mem_of_getElem? (i := 209) rfl))))
theorem q689 : (Jvm.Cond.methodLink "DigitChipModel" (215 : Nat) ({ cls := "DigitChipModel", name := "control", desc := "(I)J" } : Jvm.MethodName)) ∈ zT := zT_in b689 rfl
theorem b690 : (Jvm.Cond.static ({ cls := "DigitChipModel", name := "control", desc := "(I)J" } : Jvm.MethodName)) ∈ lw_tbl := zT_tb (List.mem_append_right tables_1_1 (List.mem_append_right tables_1_2 (List.mem_append_left tables_1_4 (List.mem_of_getElem? (i := 210) rfl))))
theorem q690 : (Jvm.Cond.static ({ cls := "DigitChipModel", name := "control", desc := "(I)J" } : Jvm.MethodName)) ∈ zT := zT_in b690 rfl
theorem b691 : (Jvm.Cond.code ({ cls := "DigitChipModel", name := "control", desc := "(I)J" } : Jvm.MethodName) prog_7_method_15_code (1 : Nat) (Option.some Jvm.ClassFile.FieldType.long)) ∈ lw_tbl := zT_tb (List.mem_append_right tables_1_1 (List.mem_append_right tables_1_2 (List.mem_append_left tables_1_4 (List.mem_of_getElem? (i := 211) rfl))))
theorem q691 : (Jvm.Cond.code ({ cls := "DigitChipModel", name := "control", desc := "(I)J" } : Jvm.MethodName) prog_7_method_15_code (1 : Nat) (Option.some Jvm.ClassFile.FieldType.long)) ∈ zT := zT_in b691 rfl
theorem b692 : (Jvm.Cond.constantLong "DigitChipModel" (111 : Nat) (28271 : Int64)) ∈ lw_tbl := zT_tb (List.mem_append_right tables_1_1 (List.mem_append_right tables_1_2 (List.mem_append_left tables_1_4 (List.mem_of_getElem? (i := 212) rfl))))
theorem q692 : (Jvm.Cond.constantLong "DigitChipModel" (111 : Nat) (28271 : Int64)) ∈ zT := zT_in b692 rfl
theorem b693 : (Jvm.Cond.constantLong "DigitChipModel" (113 : Nat) (7355683 : Int64)) ∈ lw_tbl := zT_tb (List.mem_append_right tables_1_1 (List.mem_append_right tables_1_2 (List.mem_append_left tables_1_4 (List.mem_of_getElem? (i := 213) rfl))))
theorem q693 : (Jvm.Cond.constantLong "DigitChipModel" (113 : Nat) (7355683 : Int64)) ∈ zT := zT_in b693 rfl
theorem b694 : (Jvm.Cond.constantLong "DigitChipModel" (115 : Nat) (1064320291 : Int64)) ∈ lw_tbl := zT_tb (List.mem_append_right tables_1_1 (List.mem_append_right tables_1_2 (List.mem_append_left tables_1_4 (List.mem_of_getElem? (i := 214) rfl))))
theorem q694 : (Jvm.Cond.constantLong "DigitChipModel" (115 : Nat) (1064320291 : Int64)) ∈ zT := zT_in b694 rfl
theorem b695 : (Jvm.Cond.constantLong "DigitChipModel" (117 : Nat) (7545643 : Int64)) ∈ lw_tbl := zT_tb (List.mem_append_right tables_1_1 (List.mem_append_right tables_1_2 (List.mem_append_left tables_1_4 (List.mem_of_getElem? (i := 215) rfl))))
theorem q695 : (Jvm.Cond.constantLong "DigitChipModel" (117 : Nat) (7545643 : Int64)) ∈ zT := zT_in b695 rfl
theorem b696 : (Jvm.Cond.constantLong "DigitChipModel" (119 : Nat) (7545645 : Int64)) ∈ lw_tbl := zT_tb (List.mem_append_right tables_1_1 (List.mem_append_right tables_1_2 (List.mem_append_left tables_1_4 (List.mem_of_getElem? (i := 216) rfl))))
theorem q696 : (Jvm.Cond.constantLong "DigitChipModel" (119 : Nat) (7545645 : Int64)) ∈ zT := zT_in b696 rfl
theorem b697 : (Jvm.Cond.constantLong "DigitChipModel" (121 : Nat) (4158243 : Int64)) ∈ lw_tbl := zT_tb (List.mem_append_right tables_1_1 (List.mem_append_right tables_1_2 (List.mem_append_left tables_1_4 (List.mem_of_getElem? (i := 217) rfl))))
theorem q697 : (Jvm.Cond.constantLong "DigitChipModel" (121 : Nat) (4158243 : Int64)) ∈ zT := zT_in b697 rfl
theorem b698 : (Jvm.Cond.constantLong "DigitChipModel" (123 : Nat) (27683 : Int64)) ∈ lw_tbl := zT_tb (List.mem_append_right tables_1_1 (List.mem_append_right tables_1_2 (List.mem_append_left tables_1_4 (List.mem_of_getElem? (i := 218) rfl))))
theorem q698 : (Jvm.Cond.constantLong "DigitChipModel" (123 : Nat) (27683 : Int64)) ∈ zT := zT_in b698 rfl
theorem b699 : (Jvm.Cond.constantLong "DigitChipModel" (125 : Nat) (28715 : Int64)) ∈ lw_tbl := zT_tb (List.mem_append_right tables_1_1 (List.mem_append_right tables_1_2 (List.mem_append_left tables_1_4 (List.mem_of_getElem? (i := 219) rfl))))
theorem q699 : (Jvm.Cond.constantLong "DigitChipModel" (125 : Nat) (28715 : Int64)) ∈ zT := zT_in b699 rfl
theorem b700 : (Jvm.Cond.constantLong "DigitChipModel" (127 : Nat) (28717 : Int64)) ∈ lw_tbl := zT_tb (List.mem_append_right tables_1_1 (List.mem_append_right tables_1_2 (List.mem_append_left tables_1_4 (List.mem_of_getElem? (i := 220) rfl))))
theorem q700 : (Jvm.Cond.constantLong "DigitChipModel" (127 : Nat) (28717 : Int64)) ∈ zT := zT_in b700 rfl
theorem b701 : (Jvm.Cond.constantLong "DigitChipModel" (129 : Nat) (1886745448 : Int64)) ∈ lw_tbl := zT_tb (List.mem_append_right tables_1_1 (List.mem_append_right tables_1_2 (List.mem_append_left tables_1_4 (List.mem_of_getElem? (i := 221) rfl))))
theorem q701 : (Jvm.Cond.constantLong "DigitChipModel" (129 : Nat) (1886745448 : Int64)) ∈ zT := zT_in b701 rfl
theorem b702 : (Jvm.Cond.constantLong "DigitChipModel" (131 : Nat) (7368560 : Int64)) ∈ lw_tbl := zT_tb (List.mem_append_right tables_1_1 (List.mem_append_right tables_1_2 (List.mem_append_left tables_1_4 (List.mem_of_getElem? (i := 222) rfl))))
theorem q702 : (Jvm.Cond.constantLong "DigitChipModel" (131 : Nat) (7368560 : Int64)) ∈ zT := zT_in b702 rfl
theorem b703 : (Jvm.Cond.constantLong "DigitChipModel" (133 : Nat) (1650549611 : Int64)) ∈ lw_tbl := zT_tb (List.mem_append_right tables_1_1 (List.mem_append_right tables_1_2 (List.mem_append_left tables_1_4 (List.mem_of_getElem? (i := 223) rfl))))
theorem q703 : (Jvm.Cond.constantLong "DigitChipModel" (133 : Nat) (1650549611 : Int64)) ∈ zT := zT_in b703 rfl
theorem b704 : (Jvm.Cond.constantLong "DigitChipModel" (135 : Nat) (7038329 : Int64)) ∈ lw_tbl := zT_tb (List.mem_append_right tables_1_1 (List.mem_append_right tables_1_2 (List.mem_append_left tables_1_4 (List.mem_of_getElem? (i := 224) rfl))))
theorem q704 : (Jvm.Cond.constantLong "DigitChipModel" (135 : Nat) (7038329 : Int64)) ∈ zT := zT_in b704 rfl
theorem b705 : (Jvm.Cond.constantLong "DigitChipModel" (137 : Nat) (1937010544 : Int64)) ∈ lw_tbl := zT_tb (List.mem_append_right tables_1_1 (List.mem_append_right tables_1_2 (List.mem_append_left tables_1_4 (List.mem_of_getElem? (i := 225) rfl))))
theorem q705 : (Jvm.Cond.constantLong "DigitChipModel" (137 : Nat) (1937010544 : Int64)) ∈ zT := zT_in b705 rfl
theorem b706 : (Jvm.Cond.constantLong "DigitChipModel" (139 : Nat) (4405837 : Int64)) ∈ lw_tbl := zT_tb (List.mem_append_right tables_1_1 (List.mem_append_right tables_1_2 (List.mem_append_left tables_1_4 (List.mem_of_getElem? (i := 226) rfl))))
theorem q706 : (Jvm.Cond.constantLong "DigitChipModel" (139 : Nat) (4405837 : Int64)) ∈ zT := zT_in b706 rfl
theorem b707 : (Jvm.Cond.constantLong "DigitChipModel" (141 : Nat) (1685026670 : Int64)) ∈ lw_tbl := zT_tb (List.mem_append_right tables_1_1 (List.mem_append_right tables_1_2 (List.mem_append_left tables_1_4 (List.mem_of_getElem? (i := 227) rfl))))
theorem q707 : (Jvm.Cond.constantLong "DigitChipModel" (141 : Nat) (1685026670 : Int64)) ∈ zT := zT_in b707 rfl
theorem b708 : (Jvm.Cond.methodLink "DigitChipModel" (218 : Nat) ({ cls := "DigitChipModel", name := "digit", desc := "(C)I" } : Jvm.MethodName)) ∈ lw_tbl := zT_tb (List.mem_append_right tables_1_1 (List.mem_append_right tables_1_2 (List.mem_append_left tables_1_4 (List.mem_of_getElem? (i := 228) rfl))))
theorem q708 : (Jvm.Cond.methodLink "DigitChipModel" (218 : Nat) ({ cls := "DigitChipModel", name := "digit", desc := "(C)I" } : Jvm.MethodName)) ∈ zT := zT_in b708 rfl
theorem b709 : (Jvm.Cond.static ({ cls := "DigitChipModel", name := "digit", desc := "(C)I" } : Jvm.MethodName)) ∈ lw_tbl := zT_tb (List.mem_append_right tables_1_1 (List.mem_append_right tables_1_2 (List.mem_append_left tables_1_4 (List.mem_of_getElem? (i := 229) rfl))))
theorem q709 : (Jvm.Cond.static ({ cls := "DigitChipModel", name := "digit", desc := "(C)I" } : Jvm.MethodName)) ∈ zT := zT_in b709 rfl
theorem b710 : (Jvm.Cond.code ({ cls := "DigitChipModel", name := "digit", desc := "(C)I" } : Jvm.MethodName) prog_7_method_18_code (1 : Nat) (Option.some Jvm.ClassFile.FieldType.int)) ∈ lw_tbl := zT_tb (List.mem_append_right tables_1_1 (List.mem_append_right tables_1_2 (List.mem_append_left tables_1_4 (List.mem_of_getElem? (i := 230) rfl))))
theorem q710 : (Jvm.Cond.code ({ cls := "DigitChipModel", name := "digit", desc := "(C)I" } : Jvm.MethodName) prog_7_method_18_code (1 : Nat) (Option.some Jvm.ClassFile.FieldType.int)) ∈ zT := zT_in b710 rfl
theorem b711 : (Jvm.Cond.methodLink "DigitChipModel" (222 : Nat) ({ cls := "DigitChipModel", name := "fieldOf", desc := "(C)I" } : Jvm.MethodName)) ∈ lw_tbl := zT_tb (List.mem_append_right tables_1_1 (List.mem_append_right tables_1_2 (List.mem_append_left tables_1_4 (List.mem_of_getElem? (i := 231) rfl))))
theorem q711 : (Jvm.Cond.methodLink "DigitChipModel" (222 : Nat) ({ cls := "DigitChipModel", name := "fieldOf", desc := "(C)I" } : Jvm.MethodName)) ∈ zT := zT_in b711 rfl
theorem b712 : (Jvm.Cond.static ({ cls := "DigitChipModel", name := "fieldOf", desc := "(C)I" } : Jvm.MethodName)) ∈ lw_tbl := zT_tb (List.mem_append_right tables_1_1 (List.mem_append_right tables_1_2 (List.mem_append_left tables_1_4 (List.mem_of_getElem? (i := 232) rfl))))
theorem q712 : (Jvm.Cond.static ({ cls := "DigitChipModel", name := "fieldOf", desc := "(C)I" } : Jvm.MethodName)) ∈ zT := zT_in b712 rfl
theorem b713 : (Jvm.Cond.code ({ cls := "DigitChipModel", name := "fieldOf", desc := "(C)I" } : Jvm.MethodName) prog_7_method_20_code (1 : Nat) (Option.some Jvm.ClassFile.FieldType.int)) ∈ lw_tbl := zT_tb (List.mem_append_right tables_1_1 (List.mem_append_right tables_1_2 (List.mem_append_left tables_1_4 (List.mem_of_getElem? (i := 233) rfl))))
theorem q713 : (Jvm.Cond.code ({ cls := "DigitChipModel", name := "fieldOf", desc := "(C)I" } : Jvm.MethodName) prog_7_method_20_code (1 : Nat) (Option.some Jvm.ClassFile.FieldType.int)) ∈ zT := zT_in b713 rfl
theorem b714 : (Jvm.Cond.methodLink "DigitChipModel" (225 : Nat) ({ cls := "DigitChipModel", name := "sum", desc := "(I)J" } : Jvm.MethodName)) ∈ lw_tbl := zT_tb (List.mem_append_right tables_1_1 (List.mem_append_right tables_1_2 (List.mem_append_left tables_1_4 (List.mem_of_getElem? (i := 234) rfl))))
theorem q714 : (Jvm.Cond.methodLink "DigitChipModel" (225 : Nat) ({ cls := "DigitChipModel", name := "sum", desc := "(I)J" } : Jvm.MethodName)) ∈ zT := zT_in b714 rfl
theorem b715 : (Jvm.Cond.static ({ cls := "DigitChipModel", name := "sum", desc := "(I)J" } : Jvm.MethodName)) ∈ lw_tbl := zT_tb (List.mem_append_right tables_1_1 (List.mem_append_right tables_1_2 (List.mem_append_left tables_1_4 (List.mem_of_getElem? (i := 235) rfl))))
theorem q715 : (Jvm.Cond.static ({ cls := "DigitChipModel", name := "sum", desc := "(I)J" } : Jvm.MethodName)) ∈ zT := zT_in b715 rfl
theorem b716 : (Jvm.Cond.code ({ cls := "DigitChipModel", name := "sum", desc := "(I)J" } : Jvm.MethodName) prog_7_method_16_code (1 : Nat) (Option.some Jvm.ClassFile.FieldType.long)) ∈ lw_tbl := zT_tb (List.mem_append_right tables_1_1 (List.mem_append_right tables_1_2 (List.mem_append_left tables_1_4 (List.mem_of_getElem? (i := 236) rfl))))
theorem q716 : (Jvm.Cond.code ({ cls := "DigitChipModel", name := "sum", desc := "(I)J" } : Jvm.MethodName) prog_7_method_16_code (1 : Nat) (Option.some Jvm.ClassFile.FieldType.long)) ∈ zT := zT_in b716 rfl
theorem b717 : (Jvm.Cond.constantLong "DigitChipModel" (143 : Nat) (4275504 : Int64)) ∈ lw_tbl := zT_tb (List.mem_append_right tables_1_1 (List.mem_append_right tables_1_2 (List.mem_append_left tables_1_4 (List.mem_of_getElem? (i := 237) rfl))))
theorem q717 : (Jvm.Cond.constantLong "DigitChipModel" (143 : Nat) (4275504 : Int64)) ∈ zT := zT_in b717 rfl
theorem b718 : (Jvm.Cond.constantLong "DigitChipModel" (145 : Nat) (4341040 : Int64)) ∈ lw_tbl := zT_tb (List.mem_append_right tables_1_1 (List.mem_append_right tables_1_2 (List.mem_append_left tables_1_4 (List.mem_of_getElem? (i := 238) rfl))))
theorem q718 : (Jvm.Cond.constantLong "DigitChipModel" (145 : Nat) (4341040 : Int64)) ∈ zT := zT_in b718 rfl
theorem b719 : (Jvm.Cond.constantLong "DigitChipModel" (147 : Nat) (4406576 : Int64)) ∈ lw_tbl := zT_tb (List.mem_append_right tables_1_1 (List.mem_append_right tables_1_2 (List.mem_append_left tables_1_4 (List.mem_of_getElem? (i := 239) rfl))))
theorem q719 : (Jvm.Cond.constantLong "DigitChipModel" (147 : Nat) (4406576 : Int64)) ∈ zT := zT_in b719 rfl
theorem b720 : (Jvm.Cond.constantLong "DigitChipModel" (149 : Nat) (4274754 : Int64)) ∈ lw_tbl := zT_tb (List.mem_append_right tables_1_1 (List.mem_append_right tables_1_2 (List.mem_append_right tables_1_3 (List.mem_of_getElem? (i := 0) rfl))))
theorem q720 : (Jvm.Cond.constantLong "DigitChipModel" (149 : Nat) (4274754 : Int64)) ∈ zT := zT_in b720 rfl
theorem b721 : (Jvm.Cond.constantLong "DigitChipModel" (151 : Nat) (4341057 : Int64)) ∈ lw_tbl := zT_tb (List.mem_append_right tables_1_1 (List.mem_append_right tables_1_2 (List.mem_append_right tables_1_3 (List.mem_of_getElem? (i := 1) rfl))))
theorem q721 : (Jvm.Cond.constantLong "DigitChipModel" (151 : Nat) (4341057 : Int64)) ∈ zT := zT_in b721 rfl
theorem b722 : (Jvm.Cond.constantLong "DigitChipModel" (153 : Nat) (4274755 : Int64)) ∈ lw_tbl := zT_tb (List.mem_append_right tables_1_1 (List.mem_append_right tables_1_2 (List.mem_append_right tables_1_3 (List.mem_of_getElem? (i := 2) rfl))))
theorem q722 : (Jvm.Cond.constantLong "DigitChipModel" (153 : Nat) (4274755 : Int64)) ∈ zT := zT_in b722 rfl
theorem b723 : (Jvm.Cond.constantLong "DigitChipModel" (155 : Nat) (4406594 : Int64)) ∈ lw_tbl := zT_tb (List.mem_append_right tables_1_1 (List.mem_append_right tables_1_2 (List.mem_append_right tables_1_3 (List.mem_of_getElem? (i := 3) rfl))))
theorem q723 : (Jvm.Cond.constantLong "DigitChipModel" (155 : Nat) (4406594 : Int64)) ∈ zT := zT_in b723 rfl
theorem b724 : (Jvm.Cond.constantLong "DigitChipModel" (157 : Nat) (4340291 : Int64)) ∈ lw_tbl := zT_tb (List.mem_append_right tables_1_1 (List.mem_append_right tables_1_2 (List.mem_append_right tables_1_3 (List.mem_of_getElem? (i := 4) rfl))))
theorem q724 : (Jvm.Cond.constantLong "DigitChipModel" (157 : Nat) (4340291 : Int64)) ∈ zT := zT_in b724 rfl
theorem b725 : (Jvm.Cond.constantLong "DigitChipModel" (159 : Nat) (280200555330 : Int64)) ∈ lw_tbl := zT_tb (List.mem_append_right tables_1_1 (List.mem_append_right tables_1_2 (List.mem_append_right tables_1_3 (List.mem_of_getElem? (i := 5) rfl))))
theorem q725 : (Jvm.Cond.constantLong "DigitChipModel" (159 : Nat) (280200555330 : Int64)) ∈ zT := zT_in b725 rfl
theorem b726 : (Jvm.Cond.constantLong "DigitChipModel" (161 : Nat) (280200555331 : Int64)) ∈ lw_tbl := zT_tb (List.mem_append_right tables_1_1 (List.mem_append_right tables_1_2 (List.mem_append_right tables_1_3 (List.mem_of_getElem? (i := 6) rfl))))
theorem q726 : (Jvm.Cond.constantLong "DigitChipModel" (161 : Nat) (280200555331 : Int64)) ∈ zT := zT_in b726 rfl
theorem b727 : (Jvm.Cond.constantLong "DigitChipModel" (163 : Nat) (288790489923 : Int64)) ∈ lw_tbl := zT_tb (List.mem_append_right tables_1_1 (List.mem_append_right tables_1_2 (List.mem_append_right tables_1_3 (List.mem_of_getElem? (i := 7) rfl))))
theorem q727 : (Jvm.Cond.constantLong "DigitChipModel" (163 : Nat) (288790489923 : Int64)) ∈ zT := zT_in b727 rfl
theorem b728 : (Jvm.Cond.constantLong "DigitChipModel" (165 : Nat) (280200555313 : Int64)) ∈ lw_tbl := zT_tb (List.mem_append_right tables_1_1 (List.mem_append_right tables_1_2 (List.mem_append_right tables_1_3 (List.mem_of_getElem? (i := 8) rfl))))
theorem q728 : (Jvm.Cond.constantLong "DigitChipModel" (165 : Nat) (280200555313 : Int64)) ∈ zT := zT_in b728 rfl
theorem b729 : (Jvm.Cond.constantLong "DigitChipModel" (167 : Nat) (288790620977 : Int64)) ∈ lw_tbl := zT_tb (List.mem_append_right tables_1_1 (List.mem_append_right tables_1_2 (List.mem_append_right tables_1_3 (List.mem_of_getElem? (i := 9) rfl))))
theorem q729 : (Jvm.Cond.constantLong "DigitChipModel" (167 : Nat) (288790620977 : Int64)) ∈ zT := zT_in b729 rfl
theorem b730 : (Jvm.Cond.constantLong "DigitChipModel" (169 : Nat) (280200555842 : Int64)) ∈ lw_tbl := zT_tb (List.mem_append_right tables_1_1 (List.mem_append_right tables_1_2 (List.mem_append_right tables_1_3 (List.mem_of_getElem? (i := 10) rfl))))
theorem q730 : (Jvm.Cond.constantLong "DigitChipModel" (169 : Nat) (280200555842 : Int64)) ∈ zT := zT_in b730 rfl
theorem b731 : (Jvm.Cond.constantLong "DigitChipModel" (171 : Nat) (280200555843 : Int64)) ∈ lw_tbl := zT_tb (List.mem_append_right tables_1_1 (List.mem_append_right tables_1_2 (List.mem_append_right tables_1_3 (List.mem_of_getElem? (i := 11) rfl))))
theorem q731 : (Jvm.Cond.constantLong "DigitChipModel" (171 : Nat) (280200555843 : Int64)) ∈ zT := zT_in b731 rfl
theorem b732 : (Jvm.Cond.constantLong "DigitChipModel" (173 : Nat) (288790490435 : Int64)) ∈ lw_tbl := zT_tb (List.mem_append_right tables_1_1 (List.mem_append_right tables_1_2 (List.mem_append_right tables_1_3 (List.mem_of_getElem? (i := 12) rfl))))
theorem q732 : (Jvm.Cond.constantLong "DigitChipModel" (173 : Nat) (288790490435 : Int64)) ∈ zT := zT_in b732 rfl
theorem b733 : (Jvm.Cond.constantLong "DigitChipModel" (175 : Nat) (280200555825 : Int64)) ∈ lw_tbl := zT_tb (List.mem_append_right tables_1_1 (List.mem_append_right tables_1_2 (List.mem_append_right tables_1_3 (List.mem_of_getElem? (i := 13) rfl))))
theorem q733 : (Jvm.Cond.constantLong "DigitChipModel" (175 : Nat) (280200555825 : Int64)) ∈ zT := zT_in b733 rfl
theorem b734 : (Jvm.Cond.constantLong "DigitChipModel" (177 : Nat) (288790621489 : Int64)) ∈ lw_tbl := zT_tb (List.mem_append_right tables_1_1 (List.mem_append_right tables_1_2 (List.mem_append_right tables_1_3 (List.mem_of_getElem? (i := 14) rfl))))
theorem q734 : (Jvm.Cond.constantLong "DigitChipModel" (177 : Nat) (288790621489 : Int64)) ∈ zT := zT_in b734 rfl
theorem b735 : (Jvm.Cond.constantLong "DigitChipModel" (179 : Nat) (1128082755 : Int64)) ∈ lw_tbl := zT_tb (List.mem_append_right tables_1_1 (List.mem_append_right tables_1_2 (List.mem_append_right tables_1_3 (List.mem_of_getElem? (i := 15) rfl))))
theorem q735 : (Jvm.Cond.constantLong "DigitChipModel" (179 : Nat) (1128082755 : Int64)) ∈ zT := zT_in b735 rfl
theorem b736 : (Jvm.Cond.constantLong "DigitChipModel" (181 : Nat) (73930031443249 : Int64)) ∈ lw_tbl := zT_tb (List.mem_append_right tables_1_1 (List.mem_append_right tables_1_2 (List.mem_append_right tables_1_3 (List.mem_of_getElem? (i := 16) rfl))))
theorem q736 : (Jvm.Cond.constantLong "DigitChipModel" (181 : Nat) (73930031443249 : Int64)) ∈ zT := zT_in b736 rfl
theorem b737 : (Jvm.Cond.constantLong "DigitChipModel" (183 : Nat) (16700 : Int64)) ∈ lw_tbl := zT_tb (List.mem_append_right tables_1_1 (List.mem_append_right tables_1_2 (List.mem_append_right tables_1_3 (List.mem_of_getElem? (i := 17) rfl))))
theorem q737 : (Jvm.Cond.constantLong "DigitChipModel" (183 : Nat) (16700 : Int64)) ∈ zT := zT_in b737 rfl
theorem b738 : (Jvm.Cond.constantLong "DigitChipModel" (185 : Nat) (16702 : Int64)) ∈ lw_tbl := zT_tb (List.mem_append_right tables_1_1 (List.mem_append_right tables_1_2 (List.mem_append_right tables_1_3 (List.mem_of_getElem? (i := 18) rfl))))
theorem q738 : (Jvm.Cond.constantLong "DigitChipModel" (185 : Nat) (16702 : Int64)) ∈ zT := zT_in b738 rfl
theorem b739 : (Jvm.Cond.constantLong "DigitChipModel" (187 : Nat) (16958 : Int64)) ∈ lw_tbl := zT_tb (List.mem_append_right tables_1_1 (List.mem_append_right tables_1_2 (List.mem_append_right tables_1_3 (List.mem_of_getElem? (i := 19) rfl))))
theorem q739 : (Jvm.Cond.constantLong "DigitChipModel" (187 : Nat) (16958 : Int64)) ∈ zT := zT_in b739 rfl
theorem b740 : (Jvm.Cond.constantLong "DigitChipModel" (189 : Nat) (17214 : Int64)) ∈ lw_tbl := zT_tb (List.mem_append_right tables_1_1 (List.mem_append_right tables_1_2 (List.mem_append_right tables_1_3 (List.mem_of_getElem? (i := 20) rfl))))
theorem q740 : (Jvm.Cond.constantLong "DigitChipModel" (189 : Nat) (17214 : Int64)) ∈ zT := zT_in b740 rfl
theorem b741 : (Jvm.Cond.constantLong "DigitChipModel" (191 : Nat) (1061239874 : Int64)) ∈ lw_tbl := zT_tb (List.mem_append_right tables_1_1 (List.mem_append_right tables_1_2 (List.mem_append_right tables_1_3 (List.mem_of_getElem? (i := 21) rfl))))
theorem q741 : (Jvm.Cond.constantLong "DigitChipModel" (191 : Nat) (1061239874 : Int64)) ∈ zT := zT_in b741 rfl
theorem b742 : (Jvm.Cond.constantLong "DigitChipModel" (193 : Nat) (1061239875 : Int64)) ∈ lw_tbl := zT_tb (List.mem_append_right tables_1_1 (List.mem_append_right tables_1_2 (List.mem_append_right tables_1_3 (List.mem_of_getElem? (i := 22) rfl))))
theorem q742 : (Jvm.Cond.constantLong "DigitChipModel" (193 : Nat) (1061239875 : Int64)) ∈ zT := zT_in b742 rfl
theorem b743 : (Jvm.Cond.constantLong "DigitChipModel" (195 : Nat) (16194 : Int64)) ∈ lw_tbl := zT_tb (List.mem_append_right tables_1_1 (List.mem_append_right tables_1_2 (List.mem_append_right tables_1_3 (List.mem_of_getElem? (i := 23) rfl))))
theorem q743 : (Jvm.Cond.constantLong "DigitChipModel" (195 : Nat) (16194 : Int64)) ∈ zT := zT_in b743 rfl
theorem b744 : (Jvm.Cond.constantLong "DigitChipModel" (197 : Nat) (16195 : Int64)) ∈ lw_tbl := zT_tb (List.mem_append_right tables_1_1 (List.mem_append_right tables_1_2 (List.mem_append_right tables_1_3 (List.mem_of_getElem? (i := 24) rfl))))
theorem q744 : (Jvm.Cond.constantLong "DigitChipModel" (197 : Nat) (16195 : Int64)) ∈ zT := zT_in b744 rfl
theorem b745 : (Jvm.Cond.constantLong "DigitChipModel" (199 : Nat) (1061240112 : Int64)) ∈ lw_tbl := zT_tb (List.mem_append_right tables_1_1 (List.mem_append_right tables_1_2 (List.mem_append_right tables_1_3 (List.mem_of_getElem? (i := 25) rfl))))
theorem q745 : (Jvm.Cond.constantLong "DigitChipModel" (199 : Nat) (1061240112 : Int64)) ∈ zT := zT_in b745 rfl
theorem b746 : (Jvm.Cond.constantLong "DigitChipModel" (201 : Nat) (1061371184 : Int64)) ∈ lw_tbl := zT_tb (List.mem_append_right tables_1_1 (List.mem_append_right tables_1_2 (List.mem_append_right tables_1_3 (List.mem_of_getElem? (i := 26) rfl))))
theorem q746 : (Jvm.Cond.constantLong "DigitChipModel" (201 : Nat) (1061371184 : Int64)) ∈ zT := zT_in b746 rfl
theorem b747 : (Jvm.Cond.constantLong "DigitChipModel" (203 : Nat) (288790620995 : Int64)) ∈ lw_tbl := zT_tb (List.mem_append_right tables_1_1 (List.mem_append_right tables_1_2 (List.mem_append_right tables_1_3 (List.mem_of_getElem? (i := 27) rfl))))
theorem q747 : (Jvm.Cond.constantLong "DigitChipModel" (203 : Nat) (288790620995 : Int64)) ∈ zT := zT_in b747 rfl
theorem b748 : (Jvm.Cond.constantLong "DigitChipModel" (205 : Nat) (4275523 : Int64)) ∈ lw_tbl := zT_tb (List.mem_append_right tables_1_1 (List.mem_append_right tables_1_2 (List.mem_append_right tables_1_3 (List.mem_of_getElem? (i := 28) rfl))))
theorem q748 : (Jvm.Cond.constantLong "DigitChipModel" (205 : Nat) (4275523 : Int64)) ∈ zT := zT_in b748 rfl
theorem b749 : (Jvm.Cond.methodLink "DigitChipLaw" (40 : Nat) ({ cls := "DigitChipModel", name := "illAt", desc := "()I" } : Jvm.MethodName)) ∈ lw_tbl := zT_tb (List.mem_append_right tables_1_1 (List.mem_append_right tables_1_2 (List.mem_append_right tables_1_3 (List.mem_of_getElem? (i := 29) rfl))))
theorem q749 : (Jvm.Cond.methodLink "DigitChipLaw" (40 : Nat) ({ cls := "DigitChipModel", name := "illAt", desc := "()I" } : Jvm.MethodName)) ∈ zT := zT_in b749 rfl
theorem b750 : (Jvm.Cond.instanceMethod ({ cls := "DigitChipModel", name := "illAt", desc := "()I" } : Jvm.MethodName)) ∈ lw_tbl := zT_tb (List.mem_append_right tables_1_1 (List.mem_append_right tables_1_2 (List.mem_append_right tables_1_3 (List.mem_of_getElem? (i := 30) rfl))))
theorem q750 : (Jvm.Cond.instanceMethod ({ cls := "DigitChipModel", name := "illAt", desc := "()I" } : Jvm.MethodName)) ∈ zT := zT_in b750 rfl
theorem b751 : (Jvm.Cond.selects "DigitChipModel" ({ cls := "DigitChipModel", name := "illAt", desc := "()I" } : Jvm.MethodName) ({ cls := "DigitChipModel", name := "illAt", desc := "()I" } : Jvm.MethodName)) ∈ lw_tbl := zT_tb (List.mem_append_right tables_1_1 (List.mem_append_right tables_1_2 (List.mem_append_right tables_1_3 (List.mem_of_getElem? (i := 31) rfl))))
theorem q751 : (Jvm.Cond.selects "DigitChipModel" ({ cls := "DigitChipModel", name := "illAt", desc := "()I" } : Jvm.MethodName) ({ cls := "DigitChipModel", name := "illAt", desc := "()I" } : Jvm.MethodName)) ∈ zT := zT_in b751 rfl
theorem b752 : (Jvm.Cond.code ({ cls := "DigitChipModel", name := "illAt", desc := "()I" } : Jvm.MethodName) prog_7_method_26_code (1 : Nat) (Option.some Jvm.ClassFile.FieldType.int)) ∈ lw_tbl := zT_tb (List.mem_append_right tables_1_1 (List.mem_append_right tables_1_2 (List.mem_append_right tables_1_3 (List.mem_of_getElem? (i := 32) rfl))))
theorem q752 : (Jvm.Cond.code ({ cls := "DigitChipModel", name := "illAt", desc := "()I" } : Jvm.MethodName) prog_7_method_26_code (1 : Nat) (Option.some Jvm.ClassFile.FieldType.int)) ∈ zT := zT_in b752 rfl
theorem b753 : (Jvm.Cond.methodLink "DigitChipLaw" (44 : Nat) ({ cls := "DigitChipModel", name := "word", desc := "(I)I" } : Jvm.MethodName)) ∈ lw_tbl := zT_tb (List.mem_append_right tables_1_1 (List.mem_append_right tables_1_2 (List.mem_append_right tables_1_3 (List.mem_of_getElem? (i := 33) rfl))))
theorem q753 : (Jvm.Cond.methodLink "DigitChipLaw" (44 : Nat) ({ cls := "DigitChipModel", name := "word", desc := "(I)I" } : Jvm.MethodName)) ∈ zT := zT_in b753 rfl
theorem b754 : (Jvm.Cond.instanceMethod ({ cls := "DigitChipModel", name := "word", desc := "(I)I" } : Jvm.MethodName)) ∈ lw_tbl := zT_tb (List.mem_append_right tables_1_1 (List.mem_append_right tables_1_2 (List.mem_append_right tables_1_3 (List.mem_of_getElem? (i := 34) rfl))))
theorem q754 : (Jvm.Cond.instanceMethod ({ cls := "DigitChipModel", name := "word", desc := "(I)I" } : Jvm.MethodName)) ∈ zT := zT_in b754 rfl
theorem b755 : (Jvm.Cond.selects "DigitChipModel" ({ cls := "DigitChipModel", name := "word", desc := "(I)I" } : Jvm.MethodName) ({ cls := "DigitChipModel", name := "word", desc := "(I)I" } : Jvm.MethodName)) ∈ lw_tbl := zT_tb (List.mem_append_right tables_1_1 (List.mem_append_right tables_1_2 (List.mem_append_right tables_1_3 (List.mem_of_getElem? (i := 35) rfl))))
theorem q755 : (Jvm.Cond.selects "DigitChipModel" ({ cls := "DigitChipModel", name := "word", desc := "(I)I" } : Jvm.MethodName) ({ cls := "DigitChipModel", name := "word", desc := "(I)I" } : Jvm.MethodName)) ∈ zT := zT_in b755 rfl
theorem b756 : (Jvm.Cond.code ({ cls := "DigitChipModel", name := "word", desc := "(I)I" } : Jvm.MethodName) prog_7_method_27_code (2 : Nat) (Option.some Jvm.ClassFile.FieldType.int)) ∈ lw_tbl := zT_tb (List.mem_append_right tables_1_1 (List.mem_append_right tables_1_2 (List.mem_append_right tables_1_3 (List.mem_of_getElem? (i := 36) rfl))))
theorem q756 : (Jvm.Cond.code ({ cls := "DigitChipModel", name := "word", desc := "(I)I" } : Jvm.MethodName) prog_7_method_27_code (2 : Nat) (Option.some Jvm.ClassFile.FieldType.int)) ∈ zT := zT_in b756 rfl
theorem b757 : (Jvm.Cond.methodLink "DigitChipLaw" (49 : Nat) ({ cls := "DigitChipModel", name := "poke", desc := "(II)Z" } : Jvm.MethodName)) ∈ lw_tbl := zT_tb (List.mem_append_right tables_1_1 (List.mem_append_right tables_1_2 (List.mem_append_right tables_1_3 (List.mem_of_getElem? (i := 37) rfl))))
theorem q757 : (Jvm.Cond.methodLink "DigitChipLaw" (49 : Nat) ({ cls := "DigitChipModel", name := "poke", desc := "(II)Z" } : Jvm.MethodName)) ∈ zT := zT_in b757 rfl
theorem b758 : (Jvm.Cond.instanceMethod ({ cls := "DigitChipModel", name := "poke", desc := "(II)Z" } : Jvm.MethodName)) ∈ lw_tbl := zT_tb (List.mem_append_right tables_1_1 (List.mem_append_right tables_1_2 (List.mem_append_right tables_1_3 (List.mem_of_getElem? (i := 38) rfl))))
theorem q758 : (Jvm.Cond.instanceMethod ({ cls := "DigitChipModel", name := "poke", desc := "(II)Z" } : Jvm.MethodName)) ∈ zT := zT_in b758 rfl
theorem b759 : (Jvm.Cond.selects "DigitChipModel" ({ cls := "DigitChipModel", name := "poke", desc := "(II)Z" } : Jvm.MethodName) ({ cls := "DigitChipModel", name := "poke", desc := "(II)Z" } : Jvm.MethodName)) ∈ lw_tbl := zT_tb (List.mem_append_right tables_1_1 (List.mem_append_right tables_1_2 (List.mem_append_right tables_1_3 (List.mem_of_getElem? (i := 39) rfl))))
theorem q759 : (Jvm.Cond.selects "DigitChipModel" ({ cls := "DigitChipModel", name := "poke", desc := "(II)Z" } : Jvm.MethodName) ({ cls := "DigitChipModel", name := "poke", desc := "(II)Z" } : Jvm.MethodName)) ∈ zT := zT_in b759 rfl
theorem b760 : (Jvm.Cond.code ({ cls := "DigitChipModel", name := "poke", desc := "(II)Z" } : Jvm.MethodName) prog_7_method_28_code (3 : Nat) (Option.some Jvm.ClassFile.FieldType.boolean)) ∈ lw_tbl := zT_tb (List.mem_append_right tables_1_1 (List.mem_append_right tables_1_2 (List.mem_append_right tables_1_3 (List.mem_of_getElem? (i := 40) rfl))))
theorem q760 : (Jvm.Cond.code ({ cls := "DigitChipModel", name := "poke", desc := "(II)Z" } : Jvm.MethodName) prog_7_method_28_code (3 : Nat) (Option.some Jvm.ClassFile.FieldType.boolean)) ∈ zT := zT_in b760 rfl
theorem b761 : (Jvm.Cond.methodLink "DigitChipLaw" (54 : Nat) ({ cls := "DigitChipModel", name := "key", desc := "(I)Z" } : Jvm.MethodName)) ∈ lw_tbl := zT_tb (List.mem_append_right tables_1_1 (List.mem_append_right tables_1_2 (List.mem_append_right tables_1_3 (List.mem_of_getElem? (i := 41) rfl))))
theorem q761 : (Jvm.Cond.methodLink "DigitChipLaw" (54 : Nat) ({ cls := "DigitChipModel", name := "key", desc := "(I)Z" } : Jvm.MethodName)) ∈ zT := zT_in b761 rfl
theorem b762 : (Jvm.Cond.instanceMethod ({ cls := "DigitChipModel", name := "key", desc := "(I)Z" } : Jvm.MethodName)) ∈ lw_tbl := zT_tb (List.mem_append_right tables_1_1 (List.mem_append_right tables_1_2 (List.mem_append_right tables_1_3 (List.mem_of_getElem? (i := 42) rfl))))
theorem q762 : (Jvm.Cond.instanceMethod ({ cls := "DigitChipModel", name := "key", desc := "(I)Z" } : Jvm.MethodName)) ∈ zT := zT_in b762 rfl
theorem b763 : (Jvm.Cond.selects "DigitChipModel" ({ cls := "DigitChipModel", name := "key", desc := "(I)Z" } : Jvm.MethodName) ({ cls := "DigitChipModel", name := "key", desc := "(I)Z" } : Jvm.MethodName)) ∈ lw_tbl := zT_tb (List.mem_append_right tables_1_1 (List.mem_append_right tables_1_2 (List.mem_append_right tables_1_3 (List.mem_of_getElem? (i := 43) rfl))))
theorem q763 : (Jvm.Cond.selects "DigitChipModel" ({ cls := "DigitChipModel", name := "key", desc := "(I)Z" } : Jvm.MethodName) ({ cls := "DigitChipModel", name := "key", desc := "(I)Z" } : Jvm.MethodName)) ∈ zT := zT_in b763 rfl
theorem b764 : (Jvm.Cond.code ({ cls := "DigitChipModel", name := "key", desc := "(I)Z" } : Jvm.MethodName) prog_7_method_29_code (2 : Nat) (Option.some Jvm.ClassFile.FieldType.boolean)) ∈ lw_tbl := zT_tb (List.mem_append_right tables_1_1 (List.mem_append_right tables_1_2 (List.mem_append_right tables_1_3 (List.mem_of_getElem? (i := 44) rfl))))
theorem q764 : (Jvm.Cond.code ({ cls := "DigitChipModel", name := "key", desc := "(I)Z" } : Jvm.MethodName) prog_7_method_29_code (2 : Nat) (Option.some Jvm.ClassFile.FieldType.boolean)) ∈ zT := zT_in b764 rfl
theorem b765 : (Jvm.Cond.methodLink "DigitChipLaw" (58 : Nat) ({ cls := "DigitChipModel", name := "keys", desc := "()I" } : Jvm.MethodName)) ∈ lw_tbl := zT_tb (List.mem_append_right tables_1_1 (List.mem_append_right tables_1_2 (List.mem_append_right tables_1_3 (List.mem_of_getElem? (i := 45) rfl))))
theorem q765 : (Jvm.Cond.methodLink "DigitChipLaw" (58 : Nat) ({ cls := "DigitChipModel", name := "keys", desc := "()I" } : Jvm.MethodName)) ∈ zT := zT_in b765 rfl
theorem b766 : (Jvm.Cond.instanceMethod ({ cls := "DigitChipModel", name := "keys", desc := "()I" } : Jvm.MethodName)) ∈ lw_tbl := zT_tb (List.mem_append_right tables_1_1 (List.mem_append_right tables_1_2 (List.mem_append_right tables_1_3 (List.mem_of_getElem? (i := 46) rfl))))
theorem q766 : (Jvm.Cond.instanceMethod ({ cls := "DigitChipModel", name := "keys", desc := "()I" } : Jvm.MethodName)) ∈ zT := zT_in b766 rfl
theorem b767 : (Jvm.Cond.selects "DigitChipModel" ({ cls := "DigitChipModel", name := "keys", desc := "()I" } : Jvm.MethodName) ({ cls := "DigitChipModel", name := "keys", desc := "()I" } : Jvm.MethodName)) ∈ lw_tbl := zT_tb (List.mem_append_right tables_1_1 (List.mem_append_right tables_1_2 (List.mem_append_right tables_1_3 (List.mem_of_getElem? (i := 47) rfl))))
theorem q767 : (Jvm.Cond.selects "DigitChipModel" ({ cls := "DigitChipModel", name := "keys", desc := "()I" } : Jvm.MethodName) ({ cls := "DigitChipModel", name := "keys", desc := "()I" } : Jvm.MethodName)) ∈ zT := zT_in b767 rfl
theorem b768 : (Jvm.Cond.code ({ cls := "DigitChipModel", name := "keys", desc := "()I" } : Jvm.MethodName) prog_7_method_30_code (1 : Nat) (Option.some Jvm.ClassFile.FieldType.int)) ∈ lw_tbl := zT_tb (List.mem_append_right tables_1_1 (List.mem_append_right tables_1_2 (List.mem_append_right tables_1_3 (List.mem_of_getElem? (i := 48) rfl))))
theorem q768 : (Jvm.Cond.code ({ cls := "DigitChipModel", name := "keys", desc := "()I" } : Jvm.MethodName) prog_7_method_30_code (1 : Nat) (Option.some Jvm.ClassFile.FieldType.int)) ∈ zT := zT_in b768 rfl
theorem b769 : (Jvm.Cond.methodLink "DigitChipLaw" (67 : Nat) ({ cls := "DigitChipModel", name := "value", desc := "(I)J" } : Jvm.MethodName)) ∈ lw_tbl := zT_tb (List.mem_append_right tables_1_1 (List.mem_append_right tables_1_2 (List.mem_append_right tables_1_3 (List.mem_of_getElem? (i := 49) rfl))))
theorem q769 : (Jvm.Cond.methodLink "DigitChipLaw" (67 : Nat) ({ cls := "DigitChipModel", name := "value", desc := "(I)J" } : Jvm.MethodName)) ∈ zT := zT_in b769 rfl
theorem b770 : (Jvm.Cond.instanceMethod ({ cls := "DigitChipModel", name := "value", desc := "(I)J" } : Jvm.MethodName)) ∈ lw_tbl := zT_tb (List.mem_append_right tables_1_1 (List.mem_append_right tables_1_2 (List.mem_append_right tables_1_3 (List.mem_of_getElem? (i := 50) rfl))))
theorem q770 : (Jvm.Cond.instanceMethod ({ cls := "DigitChipModel", name := "value", desc := "(I)J" } : Jvm.MethodName)) ∈ zT := zT_in b770 rfl
theorem b771 : (Jvm.Cond.selects "DigitChipModel" ({ cls := "DigitChipModel", name := "value", desc := "(I)J" } : Jvm.MethodName) ({ cls := "DigitChipModel", name := "value", desc := "(I)J" } : Jvm.MethodName)) ∈ lw_tbl := zT_tb (List.mem_append_right tables_1_1 (List.mem_append_right tables_1_2 (List.mem_append_right tables_1_3 (List.mem_of_getElem? (i := 51) rfl))))
theorem q771 : (Jvm.Cond.selects "DigitChipModel" ({ cls := "DigitChipModel", name := "value", desc := "(I)J" } : Jvm.MethodName) ({ cls := "DigitChipModel", name := "value", desc := "(I)J" } : Jvm.MethodName)) ∈ zT := zT_in b771 rfl
theorem b772 : (Jvm.Cond.code ({ cls := "DigitChipModel", name := "value", desc := "(I)J" } : Jvm.MethodName) prog_7_method_31_code (2 : Nat) (Option.some Jvm.ClassFile.FieldType.long)) ∈ lw_tbl := zT_tb (List.mem_append_right tables_1_1 (List.mem_append_right tables_1_2 (List.mem_append_right tables_1_3 (List.mem_of_getElem? (i := 52) rfl))))
theorem q772 : (Jvm.Cond.code ({ cls := "DigitChipModel", name := "value", desc := "(I)J" } : Jvm.MethodName) prog_7_method_31_code (2 : Nat) (Option.some Jvm.ClassFile.FieldType.long)) ∈ zT := zT_in b772 rfl
theorem b773 : (Jvm.Cond.constantLong "DigitChipModel" (246 : Nat) (-1 : Int64)) ∈ lw_tbl := zT_tb (List.mem_append_right tables_1_1 (List.mem_append_right tables_1_2 (List.mem_append_right tables_1_3 (List.mem_of_getElem? (i := 53) rfl))))
theorem q773 : (Jvm.Cond.constantLong "DigitChipModel" (246 : Nat) (-1 : Int64)) ∈ zT := zT_in b773 rfl
theorem b774 : (Jvm.Cond.methodLink "DigitChipLaw" (74 : Nat) ({ cls := "DigitChipModel", name := "set", desc := "(IJ)Z" } : Jvm.MethodName)) ∈ lw_tbl := zT_tb (List.mem_append_right tables_1_1 (List.mem_append_right tables_1_2 (List.mem_append_right tables_1_3 (List.mem_of_getElem? (i := 54) rfl))))
theorem q774 : (Jvm.Cond.methodLink "DigitChipLaw" (74 : Nat) ({ cls := "DigitChipModel", name := "set", desc := "(IJ)Z" } : Jvm.MethodName)) ∈ zT := zT_in b774 rfl
theorem b775 : (Jvm.Cond.instanceMethod ({ cls := "DigitChipModel", name := "set", desc := "(IJ)Z" } : Jvm.MethodName)) ∈ lw_tbl := zT_tb (List.mem_append_right tables_1_1 (List.mem_append_right tables_1_2 (List.mem_append_right tables_1_3 (List.mem_of_getElem? (i := 55) rfl))))
theorem q775 : (Jvm.Cond.instanceMethod ({ cls := "DigitChipModel", name := "set", desc := "(IJ)Z" } : Jvm.MethodName)) ∈ zT := zT_in b775 rfl
theorem b776 : (Jvm.Cond.selects "DigitChipModel" ({ cls := "DigitChipModel", name := "set", desc := "(IJ)Z" } : Jvm.MethodName) ({ cls := "DigitChipModel", name := "set", desc := "(IJ)Z" } : Jvm.MethodName)) ∈ lw_tbl := zT_tb (List.mem_append_right tables_1_1 (List.mem_append_right tables_1_2 (List.mem_append_right tables_1_3 (List.mem_of_getElem? (i := 56) rfl))))
theorem q776 : (Jvm.Cond.selects "DigitChipModel" ({ cls := "DigitChipModel", name := "set", desc := "(IJ)Z" } : Jvm.MethodName) ({ cls := "DigitChipModel", name := "set", desc := "(IJ)Z" } : Jvm.MethodName)) ∈ zT := zT_in b776 rfl
theorem b777 : (Jvm.Cond.code ({ cls := "DigitChipModel", name := "set", desc := "(IJ)Z" } : Jvm.MethodName) prog_7_method_32_code (4 : Nat) (Option.some Jvm.ClassFile.FieldType.boolean)) ∈ lw_tbl := zT_tb (List.mem_append_right tables_1_1 (List.mem_append_right tables_1_2 (List.mem_append_right tables_1_3 (List.mem_of_getElem? (i := 57) rfl))))
theorem q777 : (Jvm.Cond.code ({ cls := "DigitChipModel", name := "set", desc := "(IJ)Z" } : Jvm.MethodName) prog_7_method_32_code (4 : Nat) (Option.some Jvm.ClassFile.FieldType.boolean)) ∈ zT := zT_in b777 rfl
theorem b778 : (Jvm.Cond.methodLink "DigitChipLaw" (78 : Nat) ({ cls := "DigitChipModel", name := "state", desc := "(I)I" } : Jvm.MethodName)) ∈ lw_tbl := zT_tb (List.mem_append_right tables_1_1 (List.mem_append_right tables_1_2 (List.mem_append_right tables_1_3 (List.mem_of_getElem? (i := 58) rfl))))
theorem q778 : (Jvm.Cond.methodLink "DigitChipLaw" (78 : Nat) ({ cls := "DigitChipModel", name := "state", desc := "(I)I" } : Jvm.MethodName)) ∈ zT := zT_in b778 rfl
theorem b779 : (Jvm.Cond.instanceMethod ({ cls := "DigitChipModel", name := "state", desc := "(I)I" } : Jvm.MethodName)) ∈ lw_tbl := zT_tb (List.mem_append_right tables_1_1 (List.mem_append_right tables_1_2 (List.mem_append_right tables_1_3 (List.mem_of_getElem? (i := 59) rfl))))
theorem q779 : (Jvm.Cond.instanceMethod ({ cls := "DigitChipModel", name := "state", desc := "(I)I" } : Jvm.MethodName)) ∈ zT := zT_in b779 rfl
theorem b780 : (Jvm.Cond.selects "DigitChipModel" ({ cls := "DigitChipModel", name := "state", desc := "(I)I" } : Jvm.MethodName) ({ cls := "DigitChipModel", name := "state", desc := "(I)I" } : Jvm.MethodName)) ∈ lw_tbl := zT_tb (List.mem_append_right tables_1_1 (List.mem_append_right tables_1_2 (List.mem_append_right tables_1_3 (List.mem_of_getElem? (i := 60) rfl))))
theorem q780 : (Jvm.Cond.selects "DigitChipModel" ({ cls := "DigitChipModel", name := "state", desc := "(I)I" } : Jvm.MethodName) ({ cls := "DigitChipModel", name := "state", desc := "(I)I" } : Jvm.MethodName)) ∈ zT := zT_in b780 rfl
theorem b781 : (Jvm.Cond.code ({ cls := "DigitChipModel", name := "state", desc := "(I)I" } : Jvm.MethodName) prog_7_method_33_code (2 : Nat) (Option.some Jvm.ClassFile.FieldType.int)) ∈ lw_tbl := zT_tb (List.mem_append_right tables_1_1 (List.mem_append_right tables_1_2 (List.mem_append_right tables_1_3 (List.mem_of_getElem? (i := 61) rfl))))
theorem q781 : (Jvm.Cond.code ({ cls := "DigitChipModel", name := "state", desc := "(I)I" } : Jvm.MethodName) prog_7_method_33_code (2 : Nat) (Option.some Jvm.ClassFile.FieldType.int)) ∈ zT := zT_in b781 rfl
theorem b782 : (Jvm.Cond.methodLink "DigitChipLaw" (82 : Nat) ({ cls := "DigitChipModel", name := "go", desc := "(I)Z" } : Jvm.MethodName)) ∈ lw_tbl := zT_tb (List.mem_append_right tables_1_1 (List.mem_append_right tables_1_2 (List.mem_append_right tables_1_3 (List.mem_of_getElem? (i := 62) rfl))))
theorem q782 : (Jvm.Cond.methodLink "DigitChipLaw" (82 : Nat) ({ cls := "DigitChipModel", name := "go", desc := "(I)Z" } : Jvm.MethodName)) ∈ zT := zT_in b782 rfl
theorem b783 : (Jvm.Cond.instanceMethod ({ cls := "DigitChipModel", name := "go", desc := "(I)Z" } : Jvm.MethodName)) ∈ lw_tbl := zT_tb (List.mem_append_right tables_1_1 (List.mem_append_right tables_1_2 (List.mem_append_right tables_1_3 (List.mem_of_getElem? (i := 63) rfl))))
theorem q783 : (Jvm.Cond.instanceMethod ({ cls := "DigitChipModel", name := "go", desc := "(I)Z" } : Jvm.MethodName)) ∈ zT := zT_in b783 rfl
theorem b784 : (Jvm.Cond.selects "DigitChipModel" ({ cls := "DigitChipModel", name := "go", desc := "(I)Z" } : Jvm.MethodName) ({ cls := "DigitChipModel", name := "go", desc := "(I)Z" } : Jvm.MethodName)) ∈ lw_tbl := zT_tb (List.mem_append_right tables_1_1 (List.mem_append_right tables_1_2 (List.mem_append_right tables_1_3 (List.mem_of_getElem? (i := 64) rfl))))
theorem q784 : (Jvm.Cond.selects "DigitChipModel" ({ cls := "DigitChipModel", name := "go", desc := "(I)Z" } : Jvm.MethodName) ({ cls := "DigitChipModel", name := "go", desc := "(I)Z" } : Jvm.MethodName)) ∈ zT := zT_in b784 rfl
theorem b785 : (Jvm.Cond.code ({ cls := "DigitChipModel", name := "go", desc := "(I)Z" } : Jvm.MethodName) prog_7_method_34_code (2 : Nat) (Option.some Jvm.ClassFile.FieldType.boolean)) ∈ lw_tbl := zT_tb (List.mem_append_right tables_1_1 (List.mem_append_right tables_1_2 (List.mem_append_right tables_1_3 (List.mem_of_getElem? (i := 65) rfl))))
theorem q785 : (Jvm.Cond.code ({ cls := "DigitChipModel", name := "go", desc := "(I)Z" } : Jvm.MethodName) prog_7_method_34_code (2 : Nat) (Option.some Jvm.ClassFile.FieldType.boolean)) ∈ zT := zT_in b785 rfl
theorem b786 : (Jvm.Cond.methodLink "DigitChipLaw" (86 : Nat) ({ cls := "DigitChipModel", name := "display", desc := "(I)I" } : Jvm.MethodName)) ∈ lw_tbl := zT_tb (List.mem_append_right tables_1_1 (List.mem_append_right tables_1_2 (List.mem_append_right tables_1_3 (List.mem_of_getElem? (i := 66) rfl))))
theorem q786 : (Jvm.Cond.methodLink "DigitChipLaw" (86 : Nat) ({ cls := "DigitChipModel", name := "display", desc := "(I)I" } : Jvm.MethodName)) ∈ zT := zT_in b786 rfl
theorem b787 : (Jvm.Cond.instanceMethod ({ cls := "DigitChipModel", name := "display", desc := "(I)I" } : Jvm.MethodName)) ∈ lw_tbl := zT_tb (List.mem_append_right tables_1_1 (List.mem_append_right tables_1_2 (List.mem_append_right tables_1_3 (List.mem_of_getElem? (i := 67) rfl))))
theorem q787 : (Jvm.Cond.instanceMethod ({ cls := "DigitChipModel", name := "display", desc := "(I)I" } : Jvm.MethodName)) ∈ zT := zT_in b787 rfl
theorem b788 : (Jvm.Cond.selects "DigitChipModel" ({ cls := "DigitChipModel", name := "display", desc := "(I)I" } : Jvm.MethodName) ({ cls := "DigitChipModel", name := "display", desc := "(I)I" } : Jvm.MethodName)) ∈ lw_tbl := zT_tb (List.mem_append_right tables_1_1 (List.mem_append_right tables_1_2 (List.mem_append_right tables_1_3 (List.mem_of_getElem? (i := 68) rfl))))
theorem q788 : (Jvm.Cond.selects "DigitChipModel" ({ cls := "DigitChipModel", name := "display", desc := "(I)I" } : Jvm.MethodName) ({ cls := "DigitChipModel", name := "display", desc := "(I)I" } : Jvm.MethodName)) ∈ zT := zT_in b788 rfl
theorem b789 : (Jvm.Cond.code ({ cls := "DigitChipModel", name := "display", desc := "(I)I" } : Jvm.MethodName) prog_7_method_36_code (4 : Nat) (Option.some Jvm.ClassFile.FieldType.int)) ∈ lw_tbl := zT_tb (List.mem_append_right tables_1_1 (List.mem_append_right tables_1_2 (List.mem_append_right tables_1_3 (List.mem_of_getElem? (i := 69) rfl))))
theorem q789 : (Jvm.Cond.code ({ cls := "DigitChipModel", name := "display", desc := "(I)I" } : Jvm.MethodName) prog_7_method_36_code (4 : Nat) (Option.some Jvm.ClassFile.FieldType.int)) ∈ zT := zT_in b789 rfl
theorem b790 : (Jvm.Cond.methodLink "DigitChipModel" (248 : Nat) ({ cls := "DigitChipModel", name := "digitOf", desc := "(II)I" } : Jvm.MethodName)) ∈ lw_tbl := zT_tb (List.mem_append_right tables_1_1 (List.mem_append_right tables_1_2 (List.mem_append_right tables_1_3 (List.mem_of_getElem? (i := 70) rfl))))
theorem q790 : (Jvm.Cond.methodLink "DigitChipModel" (248 : Nat) ({ cls := "DigitChipModel", name := "digitOf", desc := "(II)I" } : Jvm.MethodName)) ∈ zT := zT_in b790 rfl
theorem b791 : (Jvm.Cond.privateMethod ({ cls := "DigitChipModel", name := "digitOf", desc := "(II)I" } : Jvm.MethodName)) ∈ lw_tbl := zT_tb (List.mem_append_right tables_1_1 (List.mem_append_right tables_1_2 (List.mem_append_right tables_1_3 (List.mem_of_getElem? (i := 71) rfl))))
theorem b792 : (Jvm.Cond.instanceMethod ({ cls := "DigitChipModel", name := "digitOf", desc := "(II)I" } : Jvm.MethodName)) ∈ lw_tbl := zT_tb (List.mem_append_right tables_1_1 (List.mem_append_right tables_1_2 (List.mem_append_right tables_1_3 (List.mem_of_getElem? (i := 72) rfl))))
theorem q792 : (Jvm.Cond.instanceMethod ({ cls := "DigitChipModel", name := "digitOf", desc := "(II)I" } : Jvm.MethodName)) ∈ zT := zT_in b792 rfl
theorem b793 : (Jvm.Cond.code ({ cls := "DigitChipModel", name := "digitOf", desc := "(II)I" } : Jvm.MethodName) prog_7_method_35_code (3 : Nat) (Option.some Jvm.ClassFile.FieldType.int)) ∈ lw_tbl := zT_tb (List.mem_append_right tables_1_1 (List.mem_append_right tables_1_2 (List.mem_append_right tables_1_3 (List.mem_of_getElem? (i := 73) rfl))))
theorem q793 : (Jvm.Cond.code ({ cls := "DigitChipModel", name := "digitOf", desc := "(II)I" } : Jvm.MethodName) prog_7_method_35_code (3 : Nat) (Option.some Jvm.ClassFile.FieldType.int)) ∈ zT := zT_in b793 rfl
theorem b794 : (Jvm.Cond.constantLong "DigitChipLaw" (68 : Nat) (4294967295 : Int64)) ∈ lw_tbl := zT_tb (List.mem_append_right tables_1_1 (List.mem_append_right tables_1_2 (List.mem_append_right tables_1_3 (List.mem_of_getElem? (i := 74) rfl))))
theorem q794 : (Jvm.Cond.constantLong "DigitChipLaw" (68 : Nat) (4294967295 : Int64)) ∈ zT := zT_in b794 rfl
theorem b795 : (Jvm.Cond.sameMethod "java/lang/Throwable" "java/lang/Throwable" "fillInStackTrace" "(I)Ljava/lang/Throwable;") ∈ lw_tbl := zT_tb (List.mem_append_right tables_1_1 (List.mem_append_right tables_1_2 (List.mem_append_right tables_1_3 (List.mem_of_getElem? (i := 75) rfl))))
theorem b796 : (Jvm.Cond.fieldLink "java/lang/String" (9 : Nat) "java/lang/String" "value" "[B") ∈ lw_tbl := zT_tb (List.mem_append_right tables_1_1 (List.mem_append_right tables_1_2 (List.mem_append_right tables_1_3 (List.mem_of_getElem? (i := 76) rfl))))
theorem q796 : (Jvm.Cond.fieldLink "java/lang/String" (9 : Nat) "java/lang/String" "value" "[B") ∈ zT := zT_in b796 rfl
theorem b797 : (Jvm.Cond.fieldLink "java/lang/String" (15 : Nat) "java/lang/String" "coder" "B") ∈ lw_tbl := zT_tb (List.mem_append_right tables_1_1 (List.mem_append_right tables_1_2 (List.mem_append_right tables_1_3 (List.mem_of_getElem? (i := 77) rfl))))
theorem q797 : (Jvm.Cond.fieldLink "java/lang/String" (15 : Nat) "java/lang/String" "coder" "B") ∈ zT := zT_in b797 rfl
theorem b798 : (Jvm.Cond.selects "DigitChip" ({ cls := "DigitChip", name := "digitBeforePoint", desc := "()I" } : Jvm.MethodName) ({ cls := "DigitChip", name := "digitBeforePoint", desc := "()I" } : Jvm.MethodName)) ∈ lw_tbl := zT_pv (List.mem_map.mpr ⟨_, (List.mem_append_left (lw_privs_2 ++ lw_privs_3) (List.mem_of_getElem? (i := 0) rfl)), rfl⟩)
theorem q798 : (Jvm.Cond.selects "DigitChip" ({ cls := "DigitChip", name := "digitBeforePoint", desc := "()I" } : Jvm.MethodName) ({ cls := "DigitChip", name := "digitBeforePoint", desc := "()I" } : Jvm.MethodName)) ∈ zT := zT_in b798 rfl
theorem b799 : (Jvm.Cond.selects "DigitChip" ({ cls := "DigitChip", name := "codeOfDigit", desc := "(I)I" } : Jvm.MethodName) ({ cls := "DigitChip", name := "codeOfDigit", desc := "(I)I" } : Jvm.MethodName)) ∈ lw_tbl := zT_pv (List.mem_map.mpr ⟨_, (List.mem_append_left (lw_privs_2 ++ lw_privs_3) (List.mem_of_getElem? (i := 1) rfl)), rfl⟩)
theorem q799 : (Jvm.Cond.selects "DigitChip" ({ cls := "DigitChip", name := "codeOfDigit", desc := "(I)I" } : Jvm.MethodName) ({ cls := "DigitChip", name := "codeOfDigit", desc := "(I)I" } : Jvm.MethodName)) ∈ zT := zT_in b799 rfl
theorem b800 : (Jvm.Cond.selects "DigitChip$Assembler" ({ cls := "DigitChip$Assembler", name := "beginsName", desc := "(I)Z" } : Jvm.MethodName) ({ cls := "DigitChip$Assembler", name := "beginsName", desc := "(I)Z" } : Jvm.MethodName)) ∈ lw_tbl := zT_pv (List.mem_map.mpr ⟨_, (List.mem_append_left (lw_privs_2 ++ lw_privs_3) (List.mem_of_getElem? (i := 2) rfl)), rfl⟩)
theorem q800 : (Jvm.Cond.selects "DigitChip$Assembler" ({ cls := "DigitChip$Assembler", name := "beginsName", desc := "(I)Z" } : Jvm.MethodName) ({ cls := "DigitChip$Assembler", name := "beginsName", desc := "(I)Z" } : Jvm.MethodName)) ∈ zT := zT_in b800 rfl
theorem b801 : (Jvm.Cond.selects "DigitChip$Assembler" ({ cls := "DigitChip$Assembler", name := "endOfName", desc := "(I)I" } : Jvm.MethodName) ({ cls := "DigitChip$Assembler", name := "endOfName", desc := "(I)I" } : Jvm.MethodName)) ∈ lw_tbl := zT_pv (List.mem_map.mpr ⟨_, (List.mem_append_left (lw_privs_2 ++ lw_privs_3) (List.mem_of_getElem? (i := 3) rfl)), rfl⟩)
theorem q801 : (Jvm.Cond.selects "DigitChip$Assembler" ({ cls := "DigitChip$Assembler", name := "endOfName", desc := "(I)I" } : Jvm.MethodName) ({ cls := "DigitChip$Assembler", name := "endOfName", desc := "(I)I" } : Jvm.MethodName)) ∈ zT := zT_in b801 rfl
theorem b802 : (Jvm.Cond.selects "DigitChip$Assembler" ({ cls := "DigitChip$Assembler", name := "takeName", desc := "(II)Z" } : Jvm.MethodName) ({ cls := "DigitChip$Assembler", name := "takeName", desc := "(II)Z" } : Jvm.MethodName)) ∈ lw_tbl := zT_pv (List.mem_map.mpr ⟨_, (List.mem_append_left (lw_privs_2 ++ lw_privs_3) (List.mem_of_getElem? (i := 4) rfl)), rfl⟩)
theorem q802 : (Jvm.Cond.selects "DigitChip$Assembler" ({ cls := "DigitChip$Assembler", name := "takeName", desc := "(II)Z" } : Jvm.MethodName) ({ cls := "DigitChip$Assembler", name := "takeName", desc := "(II)Z" } : Jvm.MethodName)) ∈ zT := zT_in b802 rfl
theorem b803 : (Jvm.Cond.selects "DigitChip$Assembler" ({ cls := "DigitChip$Assembler", name := "findName", desc := "(Ljava/lang/String;II)I" } : Jvm.MethodName) ({ cls := "DigitChip$Assembler", name := "findName", desc := "(Ljava/lang/String;II)I" } : Jvm.MethodName)) ∈ lw_tbl := zT_pv (List.mem_map.mpr ⟨_, (List.mem_append_left (lw_privs_2 ++ lw_privs_3) (List.mem_of_getElem? (i := 5) rfl)), rfl⟩)
theorem q803 : (Jvm.Cond.selects "DigitChip$Assembler" ({ cls := "DigitChip$Assembler", name := "findName", desc := "(Ljava/lang/String;II)I" } : Jvm.MethodName) ({ cls := "DigitChip$Assembler", name := "findName", desc := "(Ljava/lang/String;II)I" } : Jvm.MethodName)) ∈ zT := zT_in b803 rfl
theorem b804 : (Jvm.Cond.selects "DigitChip$Assembler" ({ cls := "DigitChip$Assembler", name := "isName", desc := "(Ljava/lang/String;III)Z" } : Jvm.MethodName) ({ cls := "DigitChip$Assembler", name := "isName", desc := "(Ljava/lang/String;III)Z" } : Jvm.MethodName)) ∈ lw_tbl := zT_pv (List.mem_map.mpr ⟨_, (List.mem_append_left (lw_privs_2 ++ lw_privs_3) (List.mem_of_getElem? (i := 6) rfl)), rfl⟩)
theorem q804 : (Jvm.Cond.selects "DigitChip$Assembler" ({ cls := "DigitChip$Assembler", name := "isName", desc := "(Ljava/lang/String;III)Z" } : Jvm.MethodName) ({ cls := "DigitChip$Assembler", name := "isName", desc := "(Ljava/lang/String;III)Z" } : Jvm.MethodName)) ∈ zT := zT_in b804 rfl
theorem b805 : (Jvm.Cond.selects "DigitChip$Assembler" ({ cls := "DigitChip$Assembler", name := "takeLabel", desc := "(I)Z" } : Jvm.MethodName) ({ cls := "DigitChip$Assembler", name := "takeLabel", desc := "(I)Z" } : Jvm.MethodName)) ∈ lw_tbl := zT_pv (List.mem_map.mpr ⟨_, (List.mem_append_left (lw_privs_2 ++ lw_privs_3) (List.mem_of_getElem? (i := 7) rfl)), rfl⟩)
theorem q805 : (Jvm.Cond.selects "DigitChip$Assembler" ({ cls := "DigitChip$Assembler", name := "takeLabel", desc := "(I)Z" } : Jvm.MethodName) ({ cls := "DigitChip$Assembler", name := "takeLabel", desc := "(I)Z" } : Jvm.MethodName)) ∈ zT := zT_in b805 rfl
theorem b806 : (Jvm.Cond.selects "DigitChip$Assembler" ({ cls := "DigitChip$Assembler", name := "wordOfName", desc := "(II)I" } : Jvm.MethodName) ({ cls := "DigitChip$Assembler", name := "wordOfName", desc := "(II)I" } : Jvm.MethodName)) ∈ lw_tbl := zT_pv (List.mem_map.mpr ⟨_, (List.mem_append_left (lw_privs_2 ++ lw_privs_3) (List.mem_of_getElem? (i := 8) rfl)), rfl⟩)
theorem q806 : (Jvm.Cond.selects "DigitChip$Assembler" ({ cls := "DigitChip$Assembler", name := "wordOfName", desc := "(II)I" } : Jvm.MethodName) ({ cls := "DigitChip$Assembler", name := "wordOfName", desc := "(II)I" } : Jvm.MethodName)) ∈ zT := zT_in b806 rfl
theorem b807 : (Jvm.Cond.selects "DigitChip$Assembler" ({ cls := "DigitChip$Assembler", name := "fillInLabels", desc := "()V" } : Jvm.MethodName) ({ cls := "DigitChip$Assembler", name := "fillInLabels", desc := "()V" } : Jvm.MethodName)) ∈ lw_tbl := zT_pv (List.mem_map.mpr ⟨_, (List.mem_append_left (lw_privs_2 ++ lw_privs_3) (List.mem_of_getElem? (i := 9) rfl)), rfl⟩)
theorem q807 : (Jvm.Cond.selects "DigitChip$Assembler" ({ cls := "DigitChip$Assembler", name := "fillInLabels", desc := "()V" } : Jvm.MethodName) ({ cls := "DigitChip$Assembler", name := "fillInLabels", desc := "()V" } : Jvm.MethodName)) ∈ zT := zT_in b807 rfl
theorem b808 : (Jvm.Cond.selects "java/lang/Throwable" ({ cls := "java/lang/Throwable", name := "fillInStackTrace", desc := "(I)Ljava/lang/Throwable;" } : Jvm.MethodName) ({ cls := "java/lang/Throwable", name := "fillInStackTrace", desc := "(I)Ljava/lang/Throwable;" } : Jvm.MethodName)) ∈ lw_tbl := zT_pv (List.mem_map.mpr ⟨_, (List.mem_append_left (lw_privs_2 ++ lw_privs_3) (List.mem_of_getElem? (i := 10) rfl)), rfl⟩)
theorem q808 : (Jvm.Cond.selects "java/lang/Throwable" ({ cls := "java/lang/Throwable", name := "fillInStackTrace", desc := "(I)Ljava/lang/Throwable;" } : Jvm.MethodName) ({ cls := "java/lang/Throwable", name := "fillInStackTrace", desc := "(I)Ljava/lang/Throwable;" } : Jvm.MethodName)) ∈ zT := zT_in b808 rfl
theorem b809 : (Jvm.Cond.selects "DigitChip$Processor" ({ cls := "DigitChip$Processor", name := "doWord", desc := "(I)V" } : Jvm.MethodName) ({ cls := "DigitChip$Processor", name := "doWord", desc := "(I)V" } : Jvm.MethodName)) ∈ lw_tbl := zT_pv (List.mem_map.mpr ⟨_, (List.mem_append_left (lw_privs_2 ++ lw_privs_3) (List.mem_of_getElem? (i := 11) rfl)), rfl⟩)
theorem q809 : (Jvm.Cond.selects "DigitChip$Processor" ({ cls := "DigitChip$Processor", name := "doWord", desc := "(I)V" } : Jvm.MethodName) ({ cls := "DigitChip$Processor", name := "doWord", desc := "(I)V" } : Jvm.MethodName)) ∈ zT := zT_in b809 rfl
theorem b810 : (Jvm.Cond.selects "DigitChip$Processor" ({ cls := "DigitChip$Processor", name := "doPlain", desc := "(II)V" } : Jvm.MethodName) ({ cls := "DigitChip$Processor", name := "doPlain", desc := "(II)V" } : Jvm.MethodName)) ∈ lw_tbl := zT_pv (List.mem_map.mpr ⟨_, (List.mem_append_left (lw_privs_2 ++ lw_privs_3) (List.mem_of_getElem? (i := 12) rfl)), rfl⟩)
theorem q810 : (Jvm.Cond.selects "DigitChip$Processor" ({ cls := "DigitChip$Processor", name := "doPlain", desc := "(II)V" } : Jvm.MethodName) ({ cls := "DigitChip$Processor", name := "doPlain", desc := "(II)V" } : Jvm.MethodName)) ∈ zT := zT_in b810 rfl
theorem b811 : (Jvm.Cond.selects "DigitChip$Processor" ({ cls := "DigitChip$Processor", name := "setStatus", desc := "(I)V" } : Jvm.MethodName) ({ cls := "DigitChip$Processor", name := "setStatus", desc := "(I)V" } : Jvm.MethodName)) ∈ lw_tbl := zT_pv (List.mem_map.mpr ⟨_, (List.mem_append_left (lw_privs_2 ++ lw_privs_3) (List.mem_of_getElem? (i := 13) rfl)), rfl⟩)
theorem q811 : (Jvm.Cond.selects "DigitChip$Processor" ({ cls := "DigitChip$Processor", name := "setStatus", desc := "(I)V" } : Jvm.MethodName) ({ cls := "DigitChip$Processor", name := "setStatus", desc := "(I)V" } : Jvm.MethodName)) ∈ zT := zT_in b811 rfl
theorem b812 : (Jvm.Cond.selects "DigitChip$Processor" ({ cls := "DigitChip$Processor", name := "clearStatus", desc := "(I)V" } : Jvm.MethodName) ({ cls := "DigitChip$Processor", name := "clearStatus", desc := "(I)V" } : Jvm.MethodName)) ∈ lw_tbl := zT_pv (List.mem_map.mpr ⟨_, (List.mem_append_left (lw_privs_2 ++ lw_privs_3) (List.mem_of_getElem? (i := 14) rfl)), rfl⟩)
theorem q812 : (Jvm.Cond.selects "DigitChip$Processor" ({ cls := "DigitChip$Processor", name := "clearStatus", desc := "(I)V" } : Jvm.MethodName) ({ cls := "DigitChip$Processor", name := "clearStatus", desc := "(I)V" } : Jvm.MethodName)) ∈ zT := zT_in b812 rfl
theorem b813 : (Jvm.Cond.selects "DigitChip$Processor" ({ cls := "DigitChip$Processor", name := "hasStatus", desc := "(I)Z" } : Jvm.MethodName) ({ cls := "DigitChip$Processor", name := "hasStatus", desc := "(I)Z" } : Jvm.MethodName)) ∈ lw_tbl := zT_pv (List.mem_map.mpr ⟨_, (List.mem_append_left (lw_privs_2 ++ lw_privs_3) (List.mem_of_getElem? (i := 15) rfl)), rfl⟩)
theorem q813 : (Jvm.Cond.selects "DigitChip$Processor" ({ cls := "DigitChip$Processor", name := "hasStatus", desc := "(I)Z" } : Jvm.MethodName) ({ cls := "DigitChip$Processor", name := "hasStatus", desc := "(I)Z" } : Jvm.MethodName)) ∈ zT := zT_in b813 rfl
theorem b814 : (Jvm.Cond.selects "DigitChip$Processor" ({ cls := "DigitChip$Processor", name := "putDigit", desc := "(I)V" } : Jvm.MethodName) ({ cls := "DigitChip$Processor", name := "putDigit", desc := "(I)V" } : Jvm.MethodName)) ∈ lw_tbl := zT_pv (List.mem_map.mpr ⟨_, (List.mem_append_right lw_privs_1 (List.mem_append_left lw_privs_3 (List.mem_of_getElem? (i := 0) rfl))), rfl⟩)
theorem q814 : (Jvm.Cond.selects "DigitChip$Processor" ({ cls := "DigitChip$Processor", name := "putDigit", desc := "(I)V" } : Jvm.MethodName) ({ cls := "DigitChip$Processor", name := "putDigit", desc := "(I)V" } : Jvm.MethodName)) ∈ zT := zT_in b814 rfl
theorem b815 : (Jvm.Cond.selects "DigitChip$Registers" ({ cls := "DigitChip$Registers", name := "chooseDigits", desc := "(II)V" } : Jvm.MethodName) ({ cls := "DigitChip$Registers", name := "chooseDigits", desc := "(II)V" } : Jvm.MethodName)) ∈ lw_tbl := zT_pv (List.mem_map.mpr ⟨_, (List.mem_append_right lw_privs_1 (List.mem_append_left lw_privs_3 (List.mem_of_getElem? (i := 1) rfl))), rfl⟩)
theorem q815 : (Jvm.Cond.selects "DigitChip$Registers" ({ cls := "DigitChip$Registers", name := "chooseDigits", desc := "(II)V" } : Jvm.MethodName) ({ cls := "DigitChip$Registers", name := "chooseDigits", desc := "(II)V" } : Jvm.MethodName)) ∈ zT := zT_in b815 rfl
theorem b816 : (Jvm.Cond.selects "DigitChip$Processor" ({ cls := "DigitChip$Processor", name := "lowerPointer", desc := "()V" } : Jvm.MethodName) ({ cls := "DigitChip$Processor", name := "lowerPointer", desc := "()V" } : Jvm.MethodName)) ∈ lw_tbl := zT_pv (List.mem_map.mpr ⟨_, (List.mem_append_right lw_privs_1 (List.mem_append_left lw_privs_3 (List.mem_of_getElem? (i := 2) rfl))), rfl⟩)
theorem q816 : (Jvm.Cond.selects "DigitChip$Processor" ({ cls := "DigitChip$Processor", name := "lowerPointer", desc := "()V" } : Jvm.MethodName) ({ cls := "DigitChip$Processor", name := "lowerPointer", desc := "()V" } : Jvm.MethodName)) ∈ zT := zT_in b816 rfl
theorem b817 : (Jvm.Cond.selects "DigitChip$Processor" ({ cls := "DigitChip$Processor", name := "push", desc := "()V" } : Jvm.MethodName) ({ cls := "DigitChip$Processor", name := "push", desc := "()V" } : Jvm.MethodName)) ∈ lw_tbl := zT_pv (List.mem_map.mpr ⟨_, (List.mem_append_right lw_privs_1 (List.mem_append_left lw_privs_3 (List.mem_of_getElem? (i := 3) rfl))), rfl⟩)
theorem q817 : (Jvm.Cond.selects "DigitChip$Processor" ({ cls := "DigitChip$Processor", name := "push", desc := "()V" } : Jvm.MethodName) ({ cls := "DigitChip$Processor", name := "push", desc := "()V" } : Jvm.MethodName)) ∈ zT := zT_in b817 rfl
theorem b818 : (Jvm.Cond.selects "DigitChip$Processor" ({ cls := "DigitChip$Processor", name := "copy", desc := "(II)V" } : Jvm.MethodName) ({ cls := "DigitChip$Processor", name := "copy", desc := "(II)V" } : Jvm.MethodName)) ∈ lw_tbl := zT_pv (List.mem_map.mpr ⟨_, (List.mem_append_right lw_privs_1 (List.mem_append_left lw_privs_3 (List.mem_of_getElem? (i := 4) rfl))), rfl⟩)
theorem q818 : (Jvm.Cond.selects "DigitChip$Processor" ({ cls := "DigitChip$Processor", name := "copy", desc := "(II)V" } : Jvm.MethodName) ({ cls := "DigitChip$Processor", name := "copy", desc := "(II)V" } : Jvm.MethodName)) ∈ zT := zT_in b818 rfl
theorem b819 : (Jvm.Cond.selects "DigitChip$Processor" ({ cls := "DigitChip$Processor", name := "lowerStack", desc := "()V" } : Jvm.MethodName) ({ cls := "DigitChip$Processor", name := "lowerStack", desc := "()V" } : Jvm.MethodName)) ∈ lw_tbl := zT_pv (List.mem_map.mpr ⟨_, (List.mem_append_right lw_privs_1 (List.mem_append_left lw_privs_3 (List.mem_of_getElem? (i := 5) rfl))), rfl⟩)
theorem q819 : (Jvm.Cond.selects "DigitChip$Processor" ({ cls := "DigitChip$Processor", name := "lowerStack", desc := "()V" } : Jvm.MethodName) ({ cls := "DigitChip$Processor", name := "lowerStack", desc := "()V" } : Jvm.MethodName)) ∈ zT := zT_in b819 rfl
theorem b820 : (Jvm.Cond.selects "DigitChip$Processor" ({ cls := "DigitChip$Processor", name := "takeKey", desc := "()V" } : Jvm.MethodName) ({ cls := "DigitChip$Processor", name := "takeKey", desc := "()V" } : Jvm.MethodName)) ∈ lw_tbl := zT_pv (List.mem_map.mpr ⟨_, (List.mem_append_right lw_privs_1 (List.mem_append_left lw_privs_3 (List.mem_of_getElem? (i := 6) rfl))), rfl⟩)
theorem q820 : (Jvm.Cond.selects "DigitChip$Processor" ({ cls := "DigitChip$Processor", name := "takeKey", desc := "()V" } : Jvm.MethodName) ({ cls := "DigitChip$Processor", name := "takeKey", desc := "()V" } : Jvm.MethodName)) ∈ zT := zT_in b820 rfl
theorem b821 : (Jvm.Cond.selects "DigitChip$Processor" ({ cls := "DigitChip$Processor", name := "exchangeMemory", desc := "()V" } : Jvm.MethodName) ({ cls := "DigitChip$Processor", name := "exchangeMemory", desc := "()V" } : Jvm.MethodName)) ∈ lw_tbl := zT_pv (List.mem_map.mpr ⟨_, (List.mem_append_right lw_privs_1 (List.mem_append_left lw_privs_3 (List.mem_of_getElem? (i := 7) rfl))), rfl⟩)
theorem q821 : (Jvm.Cond.selects "DigitChip$Processor" ({ cls := "DigitChip$Processor", name := "exchangeMemory", desc := "()V" } : Jvm.MethodName) ({ cls := "DigitChip$Processor", name := "exchangeMemory", desc := "()V" } : Jvm.MethodName)) ∈ zT := zT_in b821 rfl
theorem b822 : (Jvm.Cond.selects "DigitChip$Processor" ({ cls := "DigitChip$Processor", name := "doFieldWork", desc := "(IJJJ)V" } : Jvm.MethodName) ({ cls := "DigitChip$Processor", name := "doFieldWork", desc := "(IJJJ)V" } : Jvm.MethodName)) ∈ lw_tbl := zT_pv (List.mem_map.mpr ⟨_, (List.mem_append_right lw_privs_1 (List.mem_append_left lw_privs_3 (List.mem_of_getElem? (i := 8) rfl))), rfl⟩)
theorem q822 : (Jvm.Cond.selects "DigitChip$Processor" ({ cls := "DigitChip$Processor", name := "doFieldWork", desc := "(IJJJ)V" } : Jvm.MethodName) ({ cls := "DigitChip$Processor", name := "doFieldWork", desc := "(IJJJ)V" } : Jvm.MethodName)) ∈ zT := zT_in b822 rfl
theorem b823 : (Jvm.Cond.selects "DigitChip$Processor" ({ cls := "DigitChip$Processor", name := "putResult", desc := "(IJ)V" } : Jvm.MethodName) ({ cls := "DigitChip$Processor", name := "putResult", desc := "(IJ)V" } : Jvm.MethodName)) ∈ lw_tbl := zT_pv (List.mem_map.mpr ⟨_, (List.mem_append_right lw_privs_1 (List.mem_append_left lw_privs_3 (List.mem_of_getElem? (i := 9) rfl))), rfl⟩)
theorem q823 : (Jvm.Cond.selects "DigitChip$Processor" ({ cls := "DigitChip$Processor", name := "putResult", desc := "(IJ)V" } : Jvm.MethodName) ({ cls := "DigitChip$Processor", name := "putResult", desc := "(IJ)V" } : Jvm.MethodName)) ∈ zT := zT_in b823 rfl
theorem b824 : (Jvm.Cond.selects "DigitChipModel" ({ cls := "DigitChipModel", name := "step", desc := "()V" } : Jvm.MethodName) ({ cls := "DigitChipModel", name := "step", desc := "()V" } : Jvm.MethodName)) ∈ lw_tbl := zT_pv (List.mem_map.mpr ⟨_, (List.mem_append_right lw_privs_1 (List.mem_append_left lw_privs_3 (List.mem_of_getElem? (i := 10) rfl))), rfl⟩)
theorem q824 : (Jvm.Cond.selects "DigitChipModel" ({ cls := "DigitChipModel", name := "step", desc := "()V" } : Jvm.MethodName) ({ cls := "DigitChipModel", name := "step", desc := "()V" } : Jvm.MethodName)) ∈ zT := zT_in b824 rfl
theorem b825 : (Jvm.Cond.selects "DigitChipModel" ({ cls := "DigitChipModel", name := "field", desc := "(I)V" } : Jvm.MethodName) ({ cls := "DigitChipModel", name := "field", desc := "(I)V" } : Jvm.MethodName)) ∈ lw_tbl := zT_pv (List.mem_map.mpr ⟨_, (List.mem_append_right lw_privs_1 (List.mem_append_left lw_privs_3 (List.mem_of_getElem? (i := 11) rfl))), rfl⟩)
theorem q825 : (Jvm.Cond.selects "DigitChipModel" ({ cls := "DigitChipModel", name := "field", desc := "(I)V" } : Jvm.MethodName) ({ cls := "DigitChipModel", name := "field", desc := "(I)V" } : Jvm.MethodName)) ∈ zT := zT_in b825 rfl
theorem b826 : (Jvm.Cond.selects "DigitChipModel" ({ cls := "DigitChipModel", name := "move", desc := "(I)V" } : Jvm.MethodName) ({ cls := "DigitChipModel", name := "move", desc := "(I)V" } : Jvm.MethodName)) ∈ lw_tbl := zT_pv (List.mem_map.mpr ⟨_, (List.mem_append_right lw_privs_1 (List.mem_append_left lw_privs_3 (List.mem_of_getElem? (i := 12) rfl))), rfl⟩)
theorem q826 : (Jvm.Cond.selects "DigitChipModel" ({ cls := "DigitChipModel", name := "move", desc := "(I)V" } : Jvm.MethodName) ({ cls := "DigitChipModel", name := "move", desc := "(I)V" } : Jvm.MethodName)) ∈ zT := zT_in b826 rfl
theorem b827 : (Jvm.Cond.selects "DigitChipModel" ({ cls := "DigitChipModel", name := "write", desc := "(IJ)V" } : Jvm.MethodName) ({ cls := "DigitChipModel", name := "write", desc := "(IJ)V" } : Jvm.MethodName)) ∈ lw_tbl := zT_pv (List.mem_map.mpr ⟨_, (List.mem_append_right lw_privs_1 (List.mem_append_left lw_privs_3 (List.mem_of_getElem? (i := 13) rfl))), rfl⟩)
theorem q827 : (Jvm.Cond.selects "DigitChipModel" ({ cls := "DigitChipModel", name := "write", desc := "(IJ)V" } : Jvm.MethodName) ({ cls := "DigitChipModel", name := "write", desc := "(IJ)V" } : Jvm.MethodName)) ∈ zT := zT_in b827 rfl
theorem b828 : (Jvm.Cond.selects "DigitChipModel" ({ cls := "DigitChipModel", name := "part", desc := "(I)J" } : Jvm.MethodName) ({ cls := "DigitChipModel", name := "part", desc := "(I)J" } : Jvm.MethodName)) ∈ lw_tbl := zT_pv (List.mem_map.mpr ⟨_, (List.mem_append_right lw_privs_1 (List.mem_append_left lw_privs_3 (List.mem_of_getElem? (i := 14) rfl))), rfl⟩)
theorem q828 : (Jvm.Cond.selects "DigitChipModel" ({ cls := "DigitChipModel", name := "part", desc := "(I)J" } : Jvm.MethodName) ({ cls := "DigitChipModel", name := "part", desc := "(I)J" } : Jvm.MethodName)) ∈ zT := zT_in b828 rfl
theorem b829 : (Jvm.Cond.selects "DigitChipModel" ({ cls := "DigitChipModel", name := "change", desc := "(II)V" } : Jvm.MethodName) ({ cls := "DigitChipModel", name := "change", desc := "(II)V" } : Jvm.MethodName)) ∈ lw_tbl := zT_pv (List.mem_map.mpr ⟨_, (List.mem_append_right lw_privs_1 (List.mem_append_left lw_privs_3 (List.mem_of_getElem? (i := 15) rfl))), rfl⟩)
theorem q829 : (Jvm.Cond.selects "DigitChipModel" ({ cls := "DigitChipModel", name := "change", desc := "(II)V" } : Jvm.MethodName) ({ cls := "DigitChipModel", name := "change", desc := "(II)V" } : Jvm.MethodName)) ∈ zT := zT_in b829 rfl
theorem b830 : (Jvm.Cond.selects "DigitChipModel" ({ cls := "DigitChipModel", name := "reckon", desc := "(I)V" } : Jvm.MethodName) ({ cls := "DigitChipModel", name := "reckon", desc := "(I)V" } : Jvm.MethodName)) ∈ lw_tbl := zT_pv (List.mem_map.mpr ⟨_, (List.mem_append_right lw_privs_1 (List.mem_append_right lw_privs_2 (List.mem_of_getElem? (i := 0) rfl))), rfl⟩)
theorem q830 : (Jvm.Cond.selects "DigitChipModel" ({ cls := "DigitChipModel", name := "reckon", desc := "(I)V" } : Jvm.MethodName) ({ cls := "DigitChipModel", name := "reckon", desc := "(I)V" } : Jvm.MethodName)) ∈ zT := zT_in b830 rfl
theorem b831 : (Jvm.Cond.selects "DigitChipModel" ({ cls := "DigitChipModel", name := "become", desc := "(IJ)V" } : Jvm.MethodName) ({ cls := "DigitChipModel", name := "become", desc := "(IJ)V" } : Jvm.MethodName)) ∈ lw_tbl := zT_pv (List.mem_map.mpr ⟨_, (List.mem_append_right lw_privs_1 (List.mem_append_right lw_privs_2 (List.mem_of_getElem? (i := 1) rfl))), rfl⟩)
theorem q831 : (Jvm.Cond.selects "DigitChipModel" ({ cls := "DigitChipModel", name := "become", desc := "(IJ)V" } : Jvm.MethodName) ({ cls := "DigitChipModel", name := "become", desc := "(IJ)V" } : Jvm.MethodName)) ∈ zT := zT_in b831 rfl
theorem b832 : (Jvm.Cond.selects "DigitChipModel" ({ cls := "DigitChipModel", name := "mark", desc := "(II)V" } : Jvm.MethodName) ({ cls := "DigitChipModel", name := "mark", desc := "(II)V" } : Jvm.MethodName)) ∈ lw_tbl := zT_pv (List.mem_map.mpr ⟨_, (List.mem_append_right lw_privs_1 (List.mem_append_right lw_privs_2 (List.mem_of_getElem? (i := 2) rfl))), rfl⟩)
theorem q832 : (Jvm.Cond.selects "DigitChipModel" ({ cls := "DigitChipModel", name := "mark", desc := "(II)V" } : Jvm.MethodName) ({ cls := "DigitChipModel", name := "mark", desc := "(II)V" } : Jvm.MethodName)) ∈ zT := zT_in b832 rfl
theorem b833 : (Jvm.Cond.selects "DigitChipModel" ({ cls := "DigitChipModel", name := "turn", desc := "(II)V" } : Jvm.MethodName) ({ cls := "DigitChipModel", name := "turn", desc := "(II)V" } : Jvm.MethodName)) ∈ lw_tbl := zT_pv (List.mem_map.mpr ⟨_, (List.mem_append_right lw_privs_1 (List.mem_append_right lw_privs_2 (List.mem_of_getElem? (i := 3) rfl))), rfl⟩)
theorem q833 : (Jvm.Cond.selects "DigitChipModel" ({ cls := "DigitChipModel", name := "turn", desc := "(II)V" } : Jvm.MethodName) ({ cls := "DigitChipModel", name := "turn", desc := "(II)V" } : Jvm.MethodName)) ∈ zT := zT_in b833 rfl
theorem b834 : (Jvm.Cond.selects "DigitChipModel" ({ cls := "DigitChipModel", name := "pick", desc := "(I)V" } : Jvm.MethodName) ({ cls := "DigitChipModel", name := "pick", desc := "(I)V" } : Jvm.MethodName)) ∈ lw_tbl := zT_pv (List.mem_map.mpr ⟨_, (List.mem_append_right lw_privs_1 (List.mem_append_right lw_privs_2 (List.mem_of_getElem? (i := 4) rfl))), rfl⟩)
theorem q834 : (Jvm.Cond.selects "DigitChipModel" ({ cls := "DigitChipModel", name := "pick", desc := "(I)V" } : Jvm.MethodName) ({ cls := "DigitChipModel", name := "pick", desc := "(I)V" } : Jvm.MethodName)) ∈ zT := zT_in b834 rfl
theorem b835 : (Jvm.Cond.selects "DigitChipModel" ({ cls := "DigitChipModel", name := "read", desc := "()I" } : Jvm.MethodName) ({ cls := "DigitChipModel", name := "read", desc := "()I" } : Jvm.MethodName)) ∈ lw_tbl := zT_pv (List.mem_map.mpr ⟨_, (List.mem_append_right lw_privs_1 (List.mem_append_right lw_privs_2 (List.mem_of_getElem? (i := 5) rfl))), rfl⟩)
theorem q835 : (Jvm.Cond.selects "DigitChipModel" ({ cls := "DigitChipModel", name := "read", desc := "()I" } : Jvm.MethodName) ({ cls := "DigitChipModel", name := "read", desc := "()I" } : Jvm.MethodName)) ∈ zT := zT_in b835 rfl
theorem b836 : (Jvm.Cond.selects "DigitChipModel" ({ cls := "DigitChipModel", name := "take", desc := "(II)Z" } : Jvm.MethodName) ({ cls := "DigitChipModel", name := "take", desc := "(II)Z" } : Jvm.MethodName)) ∈ lw_tbl := zT_pv (List.mem_map.mpr ⟨_, (List.mem_append_right lw_privs_1 (List.mem_append_right lw_privs_2 (List.mem_of_getElem? (i := 6) rfl))), rfl⟩)
theorem q836 : (Jvm.Cond.selects "DigitChipModel" ({ cls := "DigitChipModel", name := "take", desc := "(II)Z" } : Jvm.MethodName) ({ cls := "DigitChipModel", name := "take", desc := "(II)Z" } : Jvm.MethodName)) ∈ zT := zT_in b836 rfl
theorem b837 : (Jvm.Cond.selects "DigitChipModel" ({ cls := "DigitChipModel", name := "wordOf", desc := "(II)I" } : Jvm.MethodName) ({ cls := "DigitChipModel", name := "wordOf", desc := "(II)I" } : Jvm.MethodName)) ∈ lw_tbl := zT_pv (List.mem_map.mpr ⟨_, (List.mem_append_right lw_privs_1 (List.mem_append_right lw_privs_2 (List.mem_of_getElem? (i := 7) rfl))), rfl⟩)
theorem q837 : (Jvm.Cond.selects "DigitChipModel" ({ cls := "DigitChipModel", name := "wordOf", desc := "(II)I" } : Jvm.MethodName) ({ cls := "DigitChipModel", name := "wordOf", desc := "(II)I" } : Jvm.MethodName)) ∈ zT := zT_in b837 rfl
theorem b838 : (Jvm.Cond.selects "DigitChipModel" ({ cls := "DigitChipModel", name := "name", desc := "(III)J" } : Jvm.MethodName) ({ cls := "DigitChipModel", name := "name", desc := "(III)J" } : Jvm.MethodName)) ∈ lw_tbl := zT_pv (List.mem_map.mpr ⟨_, (List.mem_append_right lw_privs_1 (List.mem_append_right lw_privs_2 (List.mem_of_getElem? (i := 8) rfl))), rfl⟩)
theorem q838 : (Jvm.Cond.selects "DigitChipModel" ({ cls := "DigitChipModel", name := "name", desc := "(III)J" } : Jvm.MethodName) ({ cls := "DigitChipModel", name := "name", desc := "(III)J" } : Jvm.MethodName)) ∈ zT := zT_in b838 rfl
theorem b839 : (Jvm.Cond.selects "DigitChipModel" ({ cls := "DigitChipModel", name := "digitOf", desc := "(II)I" } : Jvm.MethodName) ({ cls := "DigitChipModel", name := "digitOf", desc := "(II)I" } : Jvm.MethodName)) ∈ lw_tbl := zT_pv (List.mem_map.mpr ⟨_, (List.mem_append_right lw_privs_1 (List.mem_append_right lw_privs_2 (List.mem_of_getElem? (i := 9) rfl))), rfl⟩)
theorem q839 : (Jvm.Cond.selects "DigitChipModel" ({ cls := "DigitChipModel", name := "digitOf", desc := "(II)I" } : Jvm.MethodName) ({ cls := "DigitChipModel", name := "digitOf", desc := "(II)I" } : Jvm.MethodName)) ∈ zT := zT_in b839 rfl
theorem inAs : ∀ w ∈ u_ws RAs TAs 8, w ∈ zT := List.forall_mem_cons.mpr ⟨q54, List.forall_mem_cons.mpr ⟨q56, List.forall_mem_cons.mpr ⟨q58, List.forall_mem_cons.mpr ⟨q60, List.forall_mem_cons.mpr ⟨q62, List.forall_mem_cons.mpr ⟨q64, List.forall_mem_cons.mpr ⟨q66, List.forall_mem_cons.mpr ⟨q68, fun _ h => absurd h List.not_mem_nil⟩⟩⟩⟩⟩⟩⟩⟩
theorem inPr : ∀ w ∈ u_ws RPr TPr 9, w ∈ zT := List.forall_mem_cons.mpr ⟨q131, List.forall_mem_cons.mpr ⟨q133, List.forall_mem_cons.mpr ⟨q135, List.forall_mem_cons.mpr ⟨q137, List.forall_mem_cons.mpr ⟨q139, List.forall_mem_cons.mpr ⟨q141, List.forall_mem_cons.mpr ⟨q143, List.forall_mem_cons.mpr ⟨q145, List.forall_mem_cons.mpr ⟨q147, fun _ h => absurd h List.not_mem_nil⟩⟩⟩⟩⟩⟩⟩⟩⟩
theorem inRe : ∀ w ∈ u_ws RRe TRe 3, w ∈ zT := List.forall_mem_cons.mpr ⟨q92, List.forall_mem_cons.mpr ⟨q94, List.forall_mem_cons.mpr ⟨q96, fun _ h => absurd h List.not_mem_nil⟩⟩⟩
theorem inWa : ∀ w ∈ u_ws RWa TWa 2, w ∈ zT := List.forall_mem_cons.mpr ⟨q109, List.forall_mem_cons.mpr ⟨q111, fun _ h => absurd h List.not_mem_nil⟩⟩
theorem inCh : ∀ w ∈ u_ws RCh TCh 2, w ∈ zT := List.forall_mem_cons.mpr ⟨q152, List.forall_mem_cons.mpr ⟨q154, fun _ h => absurd h List.not_mem_nil⟩⟩
theorem inMo : ∀ w ∈ u_ws RMo TMo 21, w ∈ zT := List.forall_mem_cons.mpr ⟨q567, List.forall_mem_cons.mpr ⟨q569, List.forall_mem_cons.mpr ⟨q571, List.forall_mem_cons.mpr ⟨q573, List.forall_mem_cons.mpr ⟨q575, List.forall_mem_cons.mpr ⟨q577, List.forall_mem_cons.mpr ⟨q579, List.forall_mem_cons.mpr ⟨q581, List.forall_mem_cons.mpr ⟨q583, List.forall_mem_cons.mpr ⟨q585, List.forall_mem_cons.mpr ⟨q587, List.forall_mem_cons.mpr ⟨q589, List.forall_mem_cons.mpr ⟨q591, List.forall_mem_cons.mpr ⟨q593, List.forall_mem_cons.mpr ⟨q595, List.forall_mem_cons.mpr ⟨q597, List.forall_mem_cons.mpr ⟨q599, List.forall_mem_cons.mpr ⟨q601, List.forall_mem_cons.mpr ⟨q603, List.forall_mem_cons.mpr ⟨q605, List.forall_mem_cons.mpr ⟨q607, fun _ h => absurd h List.not_mem_nil⟩⟩⟩⟩⟩⟩⟩⟩⟩⟩⟩⟩⟩⟩⟩⟩⟩⟩⟩⟩⟩
