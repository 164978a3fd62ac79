section
-- ===== PART A: goes FIRST, ahead of the names: the tables' words, and 'selects' of the private methods out of them =====
/-- a private method of a class that the tables say can be made, by its rows of tables_1 -/
def lw_okq (q : MethodName × Nat) : Prop := (q.1.cls ≠ "java/lang/invoke/MethodHandle" ∧ q.1.cls ≠ "java/lang/invoke/VarHandle") ∧ Cond.instantiable q.1.cls q.2 ∈ tables_1 ∧ Cond.privateMethod q.1 ∈ tables_1 ∧ Cond.instanceMethod q.1 ∈ tables_1
theorem lw_p0 : lw_okq (⟨"DigitChip", "digitBeforePoint", "()I"⟩, 2) := ⟨⟨by decide +kernel, by decide +kernel⟩, List.mem_of_getElem? (i := 19) (by decide +kernel), List.mem_of_getElem? (i := 219) (by decide +kernel), List.mem_of_getElem? (i := 220) (by decide +kernel)⟩
theorem lw_p1 : lw_okq (⟨"DigitChip", "codeOfDigit", "(I)I"⟩, 2) := ⟨⟨by decide +kernel, by decide +kernel⟩, List.mem_of_getElem? (i := 19) (by decide +kernel), List.mem_of_getElem? (i := 229) (by decide +kernel), List.mem_of_getElem? (i := 230) (by decide +kernel)⟩
theorem lw_p2 : lw_okq (⟨"DigitChip$Assembler", "beginsName", "(I)Z"⟩, 8) := ⟨⟨by decide +kernel, by decide +kernel⟩, List.mem_of_getElem? (i := 27) (by decide +kernel), List.mem_of_getElem? (i := 248) (by decide +kernel), List.mem_of_getElem? (i := 249) (by decide +kernel)⟩
theorem lw_p3 : lw_okq (⟨"DigitChip$Assembler", "endOfName", "(I)I"⟩, 8) := ⟨⟨by decide +kernel, by decide +kernel⟩, List.mem_of_getElem? (i := 27) (by decide +kernel), List.mem_of_getElem? (i := 252) (by decide +kernel), List.mem_of_getElem? (i := 253) (by decide +kernel)⟩
theorem lw_p4 : lw_okq (⟨"DigitChip$Assembler", "takeName", "(II)Z"⟩, 8) := ⟨⟨by decide +kernel, by decide +kernel⟩, List.mem_of_getElem? (i := 27) (by decide +kernel), List.mem_of_getElem? (i := 256) (by decide +kernel), List.mem_of_getElem? (i := 257) (by decide +kernel)⟩
theorem lw_p5 : lw_okq (⟨"DigitChip$Assembler", "findName", "(Ljava/lang/String;II)I"⟩, 8) := ⟨⟨by decide +kernel, by decide +kernel⟩, List.mem_of_getElem? (i := 27) (by decide +kernel), List.mem_of_getElem? (i := 261) (by decide +kernel), List.mem_of_getElem? (i := 262) (by decide +kernel)⟩
theorem lw_p6 : lw_okq (⟨"DigitChip$Assembler", "isName", "(Ljava/lang/String;III)Z"⟩, 8) := ⟨⟨by decide +kernel, by decide +kernel⟩, List.mem_of_getElem? (i := 27) (by decide +kernel), List.mem_of_getElem? (i := 303) (by decide +kernel), List.mem_of_getElem? (i := 304) (by decide +kernel)⟩
theorem lw_p7 : lw_okq (⟨"DigitChip$Assembler", "takeLabel", "(I)Z"⟩, 8) := ⟨⟨by decide +kernel, by decide +kernel⟩, List.mem_of_getElem? (i := 27) (by decide +kernel), List.mem_of_getElem? (i := 368) (by decide +kernel), List.mem_of_getElem? (i := 369) (by decide +kernel)⟩
theorem lw_p8 : lw_okq (⟨"DigitChip$Assembler", "wordOfName", "(II)I"⟩, 8) := ⟨⟨by decide +kernel, by decide +kernel⟩, List.mem_of_getElem? (i := 27) (by decide +kernel), List.mem_of_getElem? (i := 372) (by decide +kernel), List.mem_of_getElem? (i := 373) (by decide +kernel)⟩
theorem lw_p9 : lw_okq (⟨"DigitChip$Assembler", "fillInLabels", "()V"⟩, 8) := ⟨⟨by decide +kernel, by decide +kernel⟩, List.mem_of_getElem? (i := 27) (by decide +kernel), List.mem_of_getElem? (i := 379) (by decide +kernel), List.mem_of_getElem? (i := 380) (by decide +kernel)⟩
theorem lw_p10 : lw_okq (⟨"java/lang/Throwable", "fillInStackTrace", "(I)Ljava/lang/Throwable;"⟩, 6) := ⟨⟨by decide +kernel, by decide +kernel⟩, List.mem_of_getElem? (i := 419) (by decide +kernel), List.mem_of_getElem? (i := 417) (by decide +kernel), List.mem_of_getElem? (i := 418) (by decide +kernel)⟩
theorem lw_p11 : lw_okq (⟨"DigitChip$Processor", "doWord", "(I)V"⟩, 9) := ⟨⟨by decide +kernel, by decide +kernel⟩, List.mem_of_getElem? (i := 75) (by decide +kernel), List.mem_of_getElem? (i := 459) (by decide +kernel), List.mem_of_getElem? (i := 460) (by decide +kernel)⟩
theorem lw_p12 : lw_okq (⟨"DigitChip$Processor", "doPlain", "(II)V"⟩, 9) := ⟨⟨by decide +kernel, by decide +kernel⟩, List.mem_of_getElem? (i := 75) (by decide +kernel), List.mem_of_getElem? (i := 463) (by decide +kernel), List.mem_of_getElem? (i := 464) (by decide +kernel)⟩
theorem lw_p13 : lw_okq (⟨"DigitChip$Processor", "setStatus", "(I)V"⟩, 9) := ⟨⟨by decide +kernel, by decide +kernel⟩, List.mem_of_getElem? (i := 75) (by decide +kernel), List.mem_of_getElem? (i := 467) (by decide +kernel), List.mem_of_getElem? (i := 468) (by decide +kernel)⟩
theorem lw_p14 : lw_okq (⟨"DigitChip$Processor", "clearStatus", "(I)V"⟩, 9) := ⟨⟨by decide +kernel, by decide +kernel⟩, List.mem_of_getElem? (i := 75) (by decide +kernel), List.mem_of_getElem? (i := 471) (by decide +kernel), List.mem_of_getElem? (i := 472) (by decide +kernel)⟩
theorem lw_p15 : lw_okq (⟨"DigitChip$Processor", "hasStatus", "(I)Z"⟩, 9) := ⟨⟨by decide +kernel, by decide +kernel⟩, List.mem_of_getElem? (i := 75) (by decide +kernel), List.mem_of_getElem? (i := 475) (by decide +kernel), List.mem_of_getElem? (i := 476) (by decide +kernel)⟩
def lw_privs_1 : List (MethodName × Nat) := [(⟨"DigitChip", "digitBeforePoint", "()I"⟩, 2), (⟨"DigitChip", "codeOfDigit", "(I)I"⟩, 2), (⟨"DigitChip$Assembler", "beginsName", "(I)Z"⟩, 8), (⟨"DigitChip$Assembler", "endOfName", "(I)I"⟩, 8), (⟨"DigitChip$Assembler", "takeName", "(II)Z"⟩, 8), (⟨"DigitChip$Assembler", "findName", "(Ljava/lang/String;II)I"⟩, 8), (⟨"DigitChip$Assembler", "isName", "(Ljava/lang/String;III)Z"⟩, 8), (⟨"DigitChip$Assembler", "takeLabel", "(I)Z"⟩, 8), (⟨"DigitChip$Assembler", "wordOfName", "(II)I"⟩, 8), (⟨"DigitChip$Assembler", "fillInLabels", "()V"⟩, 8), (⟨"java/lang/Throwable", "fillInStackTrace", "(I)Ljava/lang/Throwable;"⟩, 6), (⟨"DigitChip$Processor", "doWord", "(I)V"⟩, 9), (⟨"DigitChip$Processor", "doPlain", "(II)V"⟩, 9), (⟨"DigitChip$Processor", "setStatus", "(I)V"⟩, 9), (⟨"DigitChip$Processor", "clearStatus", "(I)V"⟩, 9), (⟨"DigitChip$Processor", "hasStatus", "(I)Z"⟩, 9)]
theorem lw_r1 : ∀ q ∈ lw_privs_1, lw_okq q := List.forall_mem_cons.mpr ⟨lw_p0, List.forall_mem_cons.mpr ⟨lw_p1, List.forall_mem_cons.mpr ⟨lw_p2, List.forall_mem_cons.mpr ⟨lw_p3, List.forall_mem_cons.mpr ⟨lw_p4, List.forall_mem_cons.mpr ⟨lw_p5, List.forall_mem_cons.mpr ⟨lw_p6, List.forall_mem_cons.mpr ⟨lw_p7, List.forall_mem_cons.mpr ⟨lw_p8, List.forall_mem_cons.mpr ⟨lw_p9, List.forall_mem_cons.mpr ⟨lw_p10, List.forall_mem_cons.mpr ⟨lw_p11, List.forall_mem_cons.mpr ⟨lw_p12, List.forall_mem_cons.mpr ⟨lw_p13, List.forall_mem_cons.mpr ⟨lw_p14, List.forall_mem_cons.mpr ⟨lw_p15, fun _ h => absurd h List.not_mem_nil⟩⟩⟩⟩⟩⟩⟩⟩⟩⟩⟩⟩⟩⟩⟩⟩
theorem lw_p16 : lw_okq (⟨"DigitChip$Processor", "putDigit", "(I)V"⟩, 9) := ⟨⟨by decide +kernel, by decide +kernel⟩, List.mem_of_getElem? (i := 75) (by decide +kernel), List.mem_of_getElem? (i := 479) (by decide +kernel), List.mem_of_getElem? (i := 480) (by decide +kernel)⟩
theorem lw_p17 : lw_okq (⟨"DigitChip$Registers", "chooseDigits", "(II)V"⟩, 3) := ⟨⟨by decide +kernel, by decide +kernel⟩, List.mem_of_getElem? (i := 81) (by decide +kernel), List.mem_of_getElem? (i := 487) (by decide +kernel), List.mem_of_getElem? (i := 488) (by decide +kernel)⟩
theorem lw_p18 : lw_okq (⟨"DigitChip$Processor", "lowerPointer", "()V"⟩, 9) := ⟨⟨by decide +kernel, by decide +kernel⟩, List.mem_of_getElem? (i := 75) (by decide +kernel), List.mem_of_getElem? (i := 499) (by decide +kernel), List.mem_of_getElem? (i := 500) (by decide +kernel)⟩
theorem lw_p19 : lw_okq (⟨"DigitChip$Processor", "push", "()V"⟩, 9) := ⟨⟨by decide +kernel, by decide +kernel⟩, List.mem_of_getElem? (i := 75) (by decide +kernel), List.mem_of_getElem? (i := 503) (by decide +kernel), List.mem_of_getElem? (i := 504) (by decide +kernel)⟩
theorem lw_p20 : lw_okq (⟨"DigitChip$Processor", "copy", "(II)V"⟩, 9) := ⟨⟨by decide +kernel, by decide +kernel⟩, List.mem_of_getElem? (i := 75) (by decide +kernel), List.mem_of_getElem? (i := 507) (by decide +kernel), List.mem_of_getElem? (i := 508) (by decide +kernel)⟩
theorem lw_p21 : lw_okq (⟨"DigitChip$Processor", "lowerStack", "()V"⟩, 9) := ⟨⟨by decide +kernel, by decide +kernel⟩, List.mem_of_getElem? (i := 75) (by decide +kernel), List.mem_of_getElem? (i := 511) (by decide +kernel), List.mem_of_getElem? (i := 512) (by decide +kernel)⟩
theorem lw_p22 : lw_okq (⟨"DigitChip$Processor", "takeKey", "()V"⟩, 9) := ⟨⟨by decide +kernel, by decide +kernel⟩, List.mem_of_getElem? (i := 75) (by decide +kernel), List.mem_of_getElem? (i := 515) (by decide +kernel), List.mem_of_getElem? (i := 516) (by decide +kernel)⟩
theorem lw_p23 : lw_okq (⟨"DigitChip$Processor", "exchangeMemory", "()V"⟩, 9) := ⟨⟨by decide +kernel, by decide +kernel⟩, List.mem_of_getElem? (i := 75) (by decide +kernel), List.mem_of_getElem? (i := 523) (by decide +kernel), List.mem_of_getElem? (i := 524) (by decide +kernel)⟩
theorem lw_p24 : lw_okq (⟨"DigitChip$Processor", "doFieldWork", "(IJJJ)V"⟩, 9) := ⟨⟨by decide +kernel, by decide +kernel⟩, List.mem_of_getElem? (i := 75) (by decide +kernel), List.mem_of_getElem? (i := 528) (by decide +kernel), List.mem_of_getElem? (i := 529) (by decide +kernel)⟩
theorem lw_p25 : lw_okq (⟨"DigitChip$Processor", "putResult", "(IJ)V"⟩, 9) := ⟨⟨by decide +kernel, by decide +kernel⟩, List.mem_of_getElem? (i := 75) (by decide +kernel), List.mem_of_getElem? (i := 532) (by decide +kernel), List.mem_of_getElem? (i := 533) (by decide +kernel)⟩
theorem lw_p26 : lw_okq (⟨"DigitChipModel", "step", "()V"⟩, 21) := ⟨⟨by decide +kernel, by decide +kernel⟩, List.mem_of_getElem? (i := 540) (by decide +kernel), List.mem_of_getElem? (i := 619) (by decide +kernel), List.mem_of_getElem? (i := 620) (by decide +kernel)⟩
theorem lw_p27 : lw_okq (⟨"DigitChipModel", "field", "(I)V"⟩, 21) := ⟨⟨by decide +kernel, by decide +kernel⟩, List.mem_of_getElem? (i := 540) (by decide +kernel), List.mem_of_getElem? (i := 623) (by decide +kernel), List.mem_of_getElem? (i := 624) (by decide +kernel)⟩
theorem lw_p28 : lw_okq (⟨"DigitChipModel", "move", "(I)V"⟩, 21) := ⟨⟨by decide +kernel, by decide +kernel⟩, List.mem_of_getElem? (i := 540) (by decide +kernel), List.mem_of_getElem? (i := 627) (by decide +kernel), List.mem_of_getElem? (i := 628) (by decide +kernel)⟩
theorem lw_p29 : lw_okq (⟨"DigitChipModel", "write", "(IJ)V"⟩, 21) := ⟨⟨by decide +kernel, by decide +kernel⟩, List.mem_of_getElem? (i := 540) (by decide +kernel), List.mem_of_getElem? (i := 631) (by decide +kernel), List.mem_of_getElem? (i := 632) (by decide +kernel)⟩
theorem lw_p30 : lw_okq (⟨"DigitChipModel", "part", "(I)J"⟩, 21) := ⟨⟨by decide +kernel, by decide +kernel⟩, List.mem_of_getElem? (i := 540) (by decide +kernel), List.mem_of_getElem? (i := 635) (by decide +kernel), List.mem_of_getElem? (i := 636) (by decide +kernel)⟩
theorem lw_p31 : lw_okq (⟨"DigitChipModel", "change", "(II)V"⟩, 21) := ⟨⟨by decide +kernel, by decide +kernel⟩, List.mem_of_getElem? (i := 540) (by decide +kernel), List.mem_of_getElem? (i := 639) (by decide +kernel), List.mem_of_getElem? (i := 640) (by decide +kernel)⟩
def lw_privs_2 : List (MethodName × Nat) := [(⟨"DigitChip$Processor", "putDigit", "(I)V"⟩, 9), (⟨"DigitChip$Registers", "chooseDigits", "(II)V"⟩, 3), (⟨"DigitChip$Processor", "lowerPointer", "()V"⟩, 9), (⟨"DigitChip$Processor", "push", "()V"⟩, 9), (⟨"DigitChip$Processor", "copy", "(II)V"⟩, 9), (⟨"DigitChip$Processor", "lowerStack", "()V"⟩, 9), (⟨"DigitChip$Processor", "takeKey", "()V"⟩, 9), (⟨"DigitChip$Processor", "exchangeMemory", "()V"⟩, 9), (⟨"DigitChip$Processor", "doFieldWork", "(IJJJ)V"⟩, 9), (⟨"DigitChip$Processor", "putResult", "(IJ)V"⟩, 9), (⟨"DigitChipModel", "step", "()V"⟩, 21), (⟨"DigitChipModel", "field", "(I)V"⟩, 21), (⟨"DigitChipModel", "move", "(I)V"⟩, 21), (⟨"DigitChipModel", "write", "(IJ)V"⟩, 21), (⟨"DigitChipModel", "part", "(I)J"⟩, 21), (⟨"DigitChipModel", "change", "(II)V"⟩, 21)]
theorem lw_r2 : ∀ q ∈ lw_privs_2, lw_okq q := List.forall_mem_cons.mpr ⟨lw_p16, List.forall_mem_cons.mpr ⟨lw_p17, List.forall_mem_cons.mpr ⟨lw_p18, List.forall_mem_cons.mpr ⟨lw_p19, List.forall_mem_cons.mpr ⟨lw_p20, List.forall_mem_cons.mpr ⟨lw_p21, List.forall_mem_cons.mpr ⟨lw_p22, List.forall_mem_cons.mpr ⟨lw_p23, List.forall_mem_cons.mpr ⟨lw_p24, List.forall_mem_cons.mpr ⟨lw_p25, List.forall_mem_cons.mpr ⟨lw_p26, List.forall_mem_cons.mpr ⟨lw_p27, List.forall_mem_cons.mpr ⟨lw_p28, List.forall_mem_cons.mpr ⟨lw_p29, List.forall_mem_cons.mpr ⟨lw_p30, List.forall_mem_cons.mpr ⟨lw_p31, fun _ h => absurd h List.not_mem_nil⟩⟩⟩⟩⟩⟩⟩⟩⟩⟩⟩⟩⟩⟩⟩⟩
theorem lw_p32 : lw_okq (⟨"DigitChipModel", "reckon", "(I)V"⟩, 21) := ⟨⟨by decide +kernel, by decide +kernel⟩, List.mem_of_getElem? (i := 540) (by decide +kernel), List.mem_of_getElem? (i := 643) (by decide +kernel), List.mem_of_getElem? (i := 644) (by decide +kernel)⟩
theorem lw_p33 : lw_okq (⟨"DigitChipModel", "become", "(IJ)V"⟩, 21) := ⟨⟨by decide +kernel, by decide +kernel⟩, List.mem_of_getElem? (i := 540) (by decide +kernel), List.mem_of_getElem? (i := 647) (by decide +kernel), List.mem_of_getElem? (i := 648) (by decide +kernel)⟩
theorem lw_p34 : lw_okq (⟨"DigitChipModel", "mark", "(II)V"⟩, 21) := ⟨⟨by decide +kernel, by decide +kernel⟩, List.mem_of_getElem? (i := 540) (by decide +kernel), List.mem_of_getElem? (i := 651) (by decide +kernel), List.mem_of_getElem? (i := 652) (by decide +kernel)⟩
theorem lw_p35 : lw_okq (⟨"DigitChipModel", "turn", "(II)V"⟩, 21) := ⟨⟨by decide +kernel, by decide +kernel⟩, List.mem_of_getElem? (i := 540) (by decide +kernel), List.mem_of_getElem? (i := 655) (by decide +kernel), List.mem_of_getElem? (i := 656) (by decide +kernel)⟩
theorem lw_p36 : lw_okq (⟨"DigitChipModel", "pick", "(I)V"⟩, 21) := ⟨⟨by decide +kernel, by decide +kernel⟩, List.mem_of_getElem? (i := 540) (by decide +kernel), List.mem_of_getElem? (i := 659) (by decide +kernel), List.mem_of_getElem? (i := 660) (by decide +kernel)⟩
theorem lw_p37 : lw_okq (⟨"DigitChipModel", "read", "()I"⟩, 21) := ⟨⟨by decide +kernel, by decide +kernel⟩, List.mem_of_getElem? (i := 540) (by decide +kernel), List.mem_of_getElem? (i := 671) (by decide +kernel), List.mem_of_getElem? (i := 672) (by decide +kernel)⟩
theorem lw_p38 : lw_okq (⟨"DigitChipModel", "take", "(II)Z"⟩, 21) := ⟨⟨by decide +kernel, by decide +kernel⟩, List.mem_of_getElem? (i := 540) (by decide +kernel), List.mem_of_getElem? (i := 675) (by decide +kernel), List.mem_of_getElem? (i := 676) (by decide +kernel)⟩
theorem lw_p39 : lw_okq (⟨"DigitChipModel", "wordOf", "(II)I"⟩, 21) := ⟨⟨by decide +kernel, by decide +kernel⟩, List.mem_of_getElem? (i := 540) (by decide +kernel), List.mem_of_getElem? (i := 679) (by decide +kernel), List.mem_of_getElem? (i := 680) (by decide +kernel)⟩
theorem lw_p40 : lw_okq (⟨"DigitChipModel", "name", "(III)J"⟩, 21) := ⟨⟨by decide +kernel, by decide +kernel⟩, List.mem_of_getElem? (i := 540) (by decide +kernel), List.mem_of_getElem? (i := 686) (by decide +kernel), List.mem_of_getElem? (i := 687) (by decide +kernel)⟩
theorem lw_p41 : lw_okq (⟨"DigitChipModel", "digitOf", "(II)I"⟩, 21) := ⟨⟨by decide +kernel, by decide +kernel⟩, List.mem_of_getElem? (i := 540) (by decide +kernel), List.mem_of_getElem? (i := 791) (by decide +kernel), List.mem_of_getElem? (i := 792) (by decide +kernel)⟩
def lw_privs_3 : List (MethodName × Nat) := [(⟨"DigitChipModel", "reckon", "(I)V"⟩, 21), (⟨"DigitChipModel", "become", "(IJ)V"⟩, 21), (⟨"DigitChipModel", "mark", "(II)V"⟩, 21), (⟨"DigitChipModel", "turn", "(II)V"⟩, 21), (⟨"DigitChipModel", "pick", "(I)V"⟩, 21), (⟨"DigitChipModel", "read", "()I"⟩, 21), (⟨"DigitChipModel", "take", "(II)Z"⟩, 21), (⟨"DigitChipModel", "wordOf", "(II)I"⟩, 21), (⟨"DigitChipModel", "name", "(III)J"⟩, 21), (⟨"DigitChipModel", "digitOf", "(II)I"⟩, 21)]
theorem lw_r3 : ∀ q ∈ lw_privs_3, lw_okq q := List.forall_mem_cons.mpr ⟨lw_p32, List.forall_mem_cons.mpr ⟨lw_p33, List.forall_mem_cons.mpr ⟨lw_p34, List.forall_mem_cons.mpr ⟨lw_p35, List.forall_mem_cons.mpr ⟨lw_p36, List.forall_mem_cons.mpr ⟨lw_p37, List.forall_mem_cons.mpr ⟨lw_p38, List.forall_mem_cons.mpr ⟨lw_p39, List.forall_mem_cons.mpr ⟨lw_p40, List.forall_mem_cons.mpr ⟨lw_p41, fun _ h => absurd h List.not_mem_nil⟩⟩⟩⟩⟩⟩⟩⟩⟩⟩
def lw_privs : List (MethodName × Nat) := lw_privs_1 ++ (lw_privs_2 ++ (lw_privs_3))
def lw_tbl : List Cond := k2_sels lw_privs ++ tables_1
theorem lw_privs_ok : ∀ q ∈ lw_privs, lw_okq q := by
  show ∀ q ∈ lw_privs_1 ++ (lw_privs_2 ++ (lw_privs_3)), lw_okq q
  exact List.forall_mem_append.mpr ⟨lw_r1, List.forall_mem_append.mpr ⟨lw_r2, lw_r3⟩⟩
end
section

theorem goodIn_r {big : List Cond} (ws : List Cond) (ps : List Nat) (hp : ws = ps.filterMap (fun i => big[i]?)) (h : ws.all goodWord = true) : GoodIn big ws := by
  intro w hw
  have h1 := List.all_eq_true.mp h w hw
  rw [hp] at hw
  obtain ⟨i, -, hi⟩ := List.mem_filterMap.mp hw
  have hm : w ∈ big := by first | exact List.mem_of_getElem? hi | exact List.getElem?_mem hi
  exact ⟨hm, good_of_word h1⟩
theorem goodIn_app {big a b : List Cond} (ha : GoodIn big a) (hb : GoodIn big b) : GoodIn big (a ++ b) := fun w h => (List.mem_append.mp h).elim (ha w) (hb w)
theorem goodIn_ca {big a b : List Cond} {c : Cond} (ha : GoodIn big (c :: a)) (hb : GoodIn big b) : GoodIn big (c :: (a ++ b)) := fun w h => (List.mem_cons.mp h).elim (fun e => ha w (List.mem_cons.mpr (Or.inl e))) (fun h => (List.mem_append.mp h).elim (fun h => ha w (List.mem_cons.mpr (Or.inr h))) (hb w))
theorem goodIn_sub {big ws : List Cond} (hm : ∀ w ∈ ws, w ∈ big) (h : ws.all goodWord = true) : GoodIn big ws := fun w hw => ⟨hm w hw, good_of_word (List.all_eq_true.mp h w hw)⟩



section VXA


def vx_T (XC : String → State → State → Prop) (st : State) (q : Addr) (t : State) (mc ms : Nat) (free : Addr → Prop) : Prop :=
  ∃ (E : String) (ce : Cell) (L : List Loc), XC E st t ∧ t.heap[q]? = some ce ∧ ce.vm = .none ∧ st.vm.findClass E = some ce.cls ∧ st.WarmedH t.vm ∧ st.sameButNew ({ t with vm := st.vm } : State) L mc ms ∧ ∀ z ∈ L, free z.base
def vx_Q (Qc : Array Value → State → Outcome → State → Prop) (XC : String → State → State → Prop) (mc ms : Nat) (free : Addr → Prop) : Array Value → State → Outcome → State → Prop := fun a st o t =>
  (Qc a st o t ∧ ∃ L, FrameEnd st o t L mc ms ∧ ∀ q ∈ L, free q.base) ∨ ∃ q, o = .threw q ∧ vx_T XC st q t mc ms free

def vx_Met (l : Launch) (y : MethodName) (ws : List Cond) (rm : Room) (Pc : Array Value → State → Prop) (Qc : Array Value → State → Outcome → State → Prop) (XC : String → State → State → Prop) (mc ms : Nat) (free : Addr → Prop) : Prop :=
  MetFree l y (headSpec ws rm) Pc (fun _ _ _ _ _ => True) (vx_Q Qc XC mc ms free)
def vx_Post (XC : String → State → State → Prop) (mc ms : Nat) (free : Addr → Prop) : Pt → Array Value → Addr → Pt → Prop := fun A a q B =>
  ∃ (g : JFrame) (mk : MethodId) (t : State) (L : List Loc) (E : String) (ce : Cell), B.U.heap = t.heap ∧ B.U.vm = t.vm ∧ XC E (A.U.calling g mk a) t ∧ t.heap[q]? = some ce ∧ ce.vm = .none ∧ A.U.vm.findClass E = some ce.cls ∧ B.locs = A.locs ++ L ∧ (∀ z ∈ L, free z.base) ∧ B.cells = A.cells + mc ∧ B.slots = A.slots + ms
def vx_Back (l : Launch) (R : Room) (p : Program) (e : Env) (below : List Frame) (s : State) (sargs : Array Value) (y : MethodName) (len W9 : Nat)
    (Pre : Pt → Array Value → Prop) (Post : Pt → Array Value → Option Value → Pt → Prop) (PostX : Pt → Array Value → Addr → Pt → Prop) : Prop :=
  ∀ (m : MethodId) (meth : Method) (c : Code) (A : Pt) (g : JFrame) (ig : Instr) (mk : MethodId) (a : Array Value),
    Stand p l e R s m sargs below meth c A.U A.locs A.cells A.slots → g.method = m → g.locals.size = c.maxLocals → decode c.code g.pc = .ok (ig, len) →
    2 * g.monitorRoom + (g.stack.map fun v => v.category).sum ≤ W9 → A.U.methodNamed? y = some mk → Pre A a →
    (∃ (v : Option Value) (B : Pt), Stand p l e R s m sargs below meth c B.U B.locs B.cells B.slots ∧ Post A a v B ∧
      Steps p.tables e below (doInvoke e (A.U.setTop g) [] mk a).1 (B.U.setTop { g with pc := g.pc + len, stack := v.toList ++ g.stack })) ∨
    (∃ (q : Addr) (B : Pt), Stand p l e R s m sargs below meth c B.U B.locs B.cells B.slots ∧ PostX A a q B ∧
      Steps p.tables e below (doInvoke e (A.U.setTop g) [] mk a).1 ((B.U.setTop g).pushFrame (.throwing q)))
section Payer
variable {l : Launch} {R : Room} {p : Program} {e : Env} {below : List Frame} {s : State} {sargs : Array Value} {y : MethodName} {len W9 : Nat}
theorem vx_back {ws : List Cond} {rm : Room} {Pc : Array Value → State → Prop} {Qc : Array Value → State → Outcome → State → Prop} {XC : String → State → State → Prop} {mc ms : Nat} {free : Addr → Prop} {bytes : ByteArray} {maxL : Nat} {ret : Option FieldType}
    (hM : vx_Met l y ws rm Pc Qc XC mc ms free) (hblind : FrameBlind Pc) (hrc : rm.cells = mc) (hrs : rm.slots = ms)
    (hframes : rm.frames + 1 ≤ R.frames) (hlocals : W9 + (maxL + 11) + rm.locals ≤ R.locals)
    (hws : ∀ w ∈ ws, ∀ a' U, s.WarmedH U.vm → w.before a' U = true) (hcode : Cond.code y bytes maxL ret ∈ ws) (hinit : ∀ a' U, s.WarmedH U.vm → (Cond.initialized y.cls).before a' U = true) :
    vx_Back l R p e below s sargs y len W9 (PreOf R mc ms Pc) (PostOf Qc mc ms free) (vx_Post XC mc ms free) := by
  intro m meth c A g ig mk a X hg hsize hdg hW hn hp
  have h1 : (headSpec ws rm).pre.before a A.U = true := atoms_intro fun w hw => hws w hw _ _ X.warmed
  have h2 : (Cond.code y bytes maxL ret).before a A.U = true := hws _ hcode _ _ X.warmed
  have h3 : (Cond.initialized y.cls).before a A.U = true := hinit _ _ X.warmed
  have h4 : A.cells + (headSpec ws rm).room.cells ≤ R.cells := by rw [show (headSpec ws rm).room.cells = mc from hrc]; exact hp.1
  have h5 : A.slots + (headSpec ws rm).room.slots ≤ R.slots := by rw [show (headSpec ws rm).room.slots = ms from hrs]; exact hp.2.1
  have hPc : Pc a (A.U.calling g mk a) := hblind _ _ _ _ hp.2.2
  obtain ⟨U, Ls, c0, s0⟩ := A
  dsimp only [Pt.U, Pt.locs, Pt.cells, Pt.slots] at h1 h2 h3 h4 h5 X hn hPc ⊢
  obtain ⟨methY, cY, hmY, hcY, -, hlY, -, -, -, -⟩ := Cond.code_spec hn h2
  obtain ⟨kY, hkY, -⟩ := className_of_methodNamed hn
  have hinitY : kY.init = .initialized := Cond.initialized_spec (findClass_of_methodNamed hn) hkY h3
  have h : At U g.method c below := by rw [hg]; exact X.here
  have hlocals9 : W9 + (maxL + 11) + (headSpec ws rm).room.locals ≤ R.locals := hlocals
  have happ : (headSpec ws rm).appliesLoose y e.platform (U.calling g mk a) = true :=
    Spec.appliesLoose_calling (g := g) h hdg hn hkY hinitY
      (X.room_calling (g := g) (R' := (headSpec ws rm).room) hsize hmY hcY hframes (by rw [hlY]; omega) h4 h5) h1
  obtain ⟨mid, hmid⟩ := h.above
  have hfr : (U.setTop g).frames = (.java g :: mid) ++ below := by rw [State.frames_setTop' g h.top, hmid]; rfl
  obtain ⟨o, s₂, hsteps, -, hend, hq⟩ := Steps.callFree hM p X.admits X.cas X.clock (acts := []) hfr happ hPc trivial
  have hq' : vx_Q Qc XC mc ms free a (U.calling g mk a) o s₂ := hq
  rw [State.frames_setTop' g h.top] at hend
  obtain ⟨g₀, hg0⟩ := Option.isSome_iff_exists.mp h.top
  obtain ⟨r, hr⟩ := State.topJava?_eq_some.mp hg0
  have hr' : (({ U with heap := s₂.heap, slotsUsed := s₂.slotsUsed } : State).setVm s₂.vm).frames = .java g₀ :: r := hr
  rcases hq' with ⟨hqc, L, hfe, hL⟩ | ⟨q, rfl, E, ce, L, hx, hce, hcv, hcl, hW₂, hsm, hL⟩
  · obtain ⟨⟨v, rfl⟩, hW₂, e2, q2, q3, q4, q5, q6⟩ := id hfe
    have e3 : s₂ = ({ (U.calling g mk a).setFrames s₂.frames with heap := s₂.heap, slotsUsed := s₂.slotsUsed } : State).setVm s₂.vm := by
      have : s₂ = ({ s₂ with vm := (U.calling g mk a).vm } : State).setVm s₂.vm := rfl
      rw [e2] at this
      exact this
    obtain ⟨c₂, i₂, len₂, hc₂, hd₂, hf₂⟩ := hend
    have hW' : U.WarmedH s₂.vm := hW₂
    have hcc : c₂ = c := by
      have h1 : s₂.code? g.method = U.code? g.method := by
        rw [State.code?_eq, State.code?_eq, hW'.alike.method?]
      exact Option.some.inj (hc₂.symm.trans (h1.trans h.code))
    subst hcc
    have hlen : len₂ = len := by rw [hdg] at hd₂; cases hd₂; rfl
    subst hlen
    have hs₂ : s₂ = (({ U with heap := s₂.heap, slotsUsed := s₂.slotsUsed } : State).setVm s₂.vm).setTop { g with pc := g.pc + len₂, stack := v.toList ++ g.stack } := by
      refine e3.trans ?_
      rw [hf₂, State.calling_eq h.top, State.setFrames_setFrames, State.setTop_of_frames _ hr', hr]
      rfl
    have hsame : U.sameButNew ({ U with heap := s₂.heap, slotsUsed := s₂.slotsUsed } : State) L mc ms := by
      refine ⟨?_, q2, q3, q4, q5, q6⟩
      obtain ⟨t, ht, -⟩ := State.frames_cons hr
      show ({ U with heap := s₂.heap, slotsUsed := s₂.slotsUsed } : State) = { U.setFrames U.frames with heap := s₂.heap, slotsUsed := s₂.slotsUsed }
      rw [State.setFrames_self ht]
    subst hg
    refine Or.inl ⟨v, ⟨(({ U with heap := s₂.heap, slotsUsed := s₂.slotsUsed } : State).setVm s₂.vm), Ls ++ L, c0 + mc, s0 + ms⟩,
      ⟨X.admits, X.cas, X.clock, X.frames, X.room, X.hears, X.method, X.code, (X.here.setHeapUsed s₂.heap s₂.slotsUsed).setVm hW'.alike, X.tail, State.WarmedH.trans X.warmed hW', X.limits, X.bytes, X.same.trans (hsame.setVm s.vm)⟩,
      ⟨g, mk, s₂, L, rfl, rfl, hqc, rfl, hL, rfl, rfl⟩, ?_⟩
    show Steps p.tables e below _ ((({ U with heap := s₂.heap, slotsUsed := s₂.slotsUsed } : State).setVm s₂.vm).setTop { g with pc := g.pc + len₂, stack := v.toList ++ g.stack })
    rw [← hs₂]
    exact hsteps
  · obtain ⟨e2, q2, q3, q4, q5, q6⟩ := id hsm
    have e3 : s₂ = ({ (U.calling g mk a).setFrames s₂.frames with heap := s₂.heap, slotsUsed := s₂.slotsUsed } : State).setVm s₂.vm := by
      have : s₂ = ({ s₂ with vm := (U.calling g mk a).vm } : State).setVm s₂.vm := rfl
      rw [e2] at this
      exact this
    have hf₂ : s₂.frames = .throwing q :: .java g :: U.frames.tail := hend
    have hW' : U.WarmedH s₂.vm := hW₂
    have hs₂ : s₂ = ((({ U with heap := s₂.heap, slotsUsed := s₂.slotsUsed } : State).setVm s₂.vm).setTop g).pushFrame (.throwing q) := by
      refine e3.trans ?_
      rw [hf₂, State.calling_eq h.top, State.setFrames_setFrames, State.pushFrame, State.frames_setTop _ hr', State.setTop_of_frames _ hr', State.setFrames_setFrames, hr]
      rfl
    have hsame : U.sameButNew ({ U with heap := s₂.heap, slotsUsed := s₂.slotsUsed } : State) L mc ms := by
      refine ⟨?_, q2, q3, q4, q5, q6⟩
      obtain ⟨t, ht, -⟩ := State.frames_cons hr
      show ({ U with heap := s₂.heap, slotsUsed := s₂.slotsUsed } : State) = { U.setFrames U.frames with heap := s₂.heap, slotsUsed := s₂.slotsUsed }
      rw [State.setFrames_self ht]
    subst hg
    refine Or.inr ⟨q, ⟨(({ U with heap := s₂.heap, slotsUsed := s₂.slotsUsed } : State).setVm s₂.vm), Ls ++ L, c0 + mc, s0 + ms⟩,
      ⟨X.admits, X.cas, X.clock, X.frames, X.room, X.hears, X.method, X.code, (X.here.setHeapUsed s₂.heap s₂.slotsUsed).setVm hW'.alike, X.tail, State.WarmedH.trans X.warmed hW', X.limits, X.bytes, X.same.trans (hsame.setVm s.vm)⟩,
      ⟨g, mk, s₂, L, E, ce, rfl, rfl, hx, hce, hcv, hcl, rfl, hL, rfl, rfl⟩, ?_⟩
    show Steps p.tables e below _ (((({ U with heap := s₂.heap, slotsUsed := s₂.slotsUsed } : State).setVm s₂.vm).setTop g).pushFrame (.throwing q))
    rw [← hs₂]
    exact hsteps
end Payer
section Calls
variable {p : Program} {l : Launch} {e : Env} {R : Room} {s : State} {m : MethodId} {args : Array Value} {below : List Frame} {meth : Method} {c : Code} {T : State} {locs : List Loc} {cells slots : Nat}
theorem vx_callV (X : Stand p l e R s m args below meth c T locs cells slots) (hexec : p.tables.exec = Jvm.exec) {own C : String} {index : Nat} {y : MethodName} {bytes : ByteArray} {maxL : Nat} {ret : Option FieldType}
    (hown : s.vm.findClass own = some m.cls) (hlink : (Cond.methodLink own index y).before args s = true) (hinst : (Cond.instanceMethod y).before args s = true) (hsel : (Cond.selects C y y).before args s = true)
    (hcode : (Cond.code y bytes maxL ret).before args s = true) (hy : y.cls ≠ "java/lang/invoke/MethodHandle" ∧ y.cls ≠ "java/lang/invoke/VarHandle")
    {W9 : Nat} {Pre : Pt → Array Value → Prop} {Post : Pt → Array Value → Option Value → Pt → Prop} {PostX : Pt → Array Value → Addr → Pt → Prop} (hK : vx_Back l R p e below s args y 3 W9 Pre Post PostX)
    {b : Addr} {cellB : Cell} (hcell : T.heap[b]? = some cellB) (hobj : cellB.vm.isStatics = false) (hcls : s.vm.findClass C = some cellB.cls)
    {g : JFrame} (hg : g.method = m) (hsize : g.locals.size = c.maxLocals) {argsL rest : List Value} (hlen : ∀ sig, parseMethodDescriptor y.desc = some sig → argsL.length = sig.parameters.length)
    (hstack : g.stack = argsL.reverse ++ .ref b :: rest) (hW : 2 * g.monitorRoom + (rest.map fun v => v.category).sum ≤ W9) (hdg : decode c.code g.pc = .ok (.invokevirtual index, 3))
    (hpre : ∀ vm₁, s.WarmedH vm₁ → Pre ⟨T.setVm vm₁, locs, cells, slots⟩ (Value.ref b :: argsL).toArray) :
    (∃ (v : Option Value) (vm₁ : Vm) (B : Pt), s.WarmedH vm₁ ∧ Stand p l e R s m args below meth c B.U B.locs B.cells B.slots ∧ Post ⟨T.setVm vm₁, locs, cells, slots⟩ (Value.ref b :: argsL).toArray v B ∧
      ∀ target, Steps p.tables e below (B.U.setTop { g with pc := g.pc + 3, stack := v.toList ++ rest }) target → Steps p.tables e below (T.setTop g) target) ∨
    (∃ (q : Addr) (vm₁ : Vm) (B : Pt), s.WarmedH vm₁ ∧ Stand p l e R s m args below meth c B.U B.locs B.cells B.slots ∧ PostX ⟨T.setVm vm₁, locs, cells, slots⟩ (Value.ref b :: argsL).toArray q B ∧
      Steps p.tables e below (T.setTop g) ((B.U.setTop { g with stack := rest }).pushFrame (.throwing q))) := by
  obtain ⟨mk, methM, hnamed, hmethM, hstM, habM⟩ := Cond.instanceMethod_spec hinst
  obtain ⟨methM', cM, hmethM', -, -, -, -, -, -, hsigM⟩ := Cond.code_spec hnamed hcode
  cases hmethM.symm.trans hmethM'
  obtain ⟨c2, r2, m2, q1, q2, q3, q4, kP, hkP, hkPi⟩ := Cond.selects_spec hsel
  cases hcls.symm.trans q1
  cases (State.methodFound?_of_named hnamed hy).symm.trans q2
  cases hnamed.symm.trans q3
  have hselP : selectMethod e.platform s.vm cellB.cls mk = .method mk := by rw [Launch.admits_selectMethod X.admits]; exact q4
  obtain ⟨vm₁, X₁, hstep₁⟩ := X.invokevirtual hexec hown hlink hnamed hmethM hstM hkP hkPi hy (a := b) (cell := cellB) hcell
    (fun z h => by rw [h] at hobj; cases hobj) hselP hmethM habM hkP hkPi (g := g) hg (argsL := argsL) (rest := rest) (hlen _ hsigM) hstack hdg
  rcases hK m meth c ⟨T.setVm vm₁, locs, cells, slots⟩ { g with stack := rest } (.invokevirtual index) mk (Value.ref b :: argsL).toArray X₁ hg hsize hdg hW (X₁.named hnamed) (hpre vm₁ X₁.warmed) with ⟨v, B, X', hpost, hsteps⟩ | ⟨q, B, X', hpost, hsteps⟩
  · exact Or.inl ⟨v, vm₁, B, X₁.warmed, X', hpost, fun target h => hstep₁ _ fun acts => by rw [doInvoke_state]; exact hsteps.trans h⟩
  · exact Or.inr ⟨q, vm₁, B, X₁.warmed, X', hpost, hstep₁ _ fun acts => by rw [doInvoke_state]; exact hsteps⟩
theorem vx_callS (X : Stand p l e R s m args below meth c T locs cells slots) (hexec : p.tables.exec = Jvm.exec) {own : String} {index : Nat} {y : MethodName} {bytes : ByteArray} {maxL : Nat} {ret : Option FieldType}
    (hown : s.vm.findClass own = some m.cls) (hlink : (Cond.methodLink own index y).before args s = true) (hstat : (Cond.static y).before args s = true) (hinit : (Cond.initialized y.cls).before args s = true)
    (hcode : (Cond.code y bytes maxL ret).before args s = true) (hy : y.cls ≠ "java/lang/invoke/MethodHandle" ∧ y.cls ≠ "java/lang/invoke/VarHandle")
    {W9 : Nat} {Pre : Pt → Array Value → Prop} {Post : Pt → Array Value → Option Value → Pt → Prop} {PostX : Pt → Array Value → Addr → Pt → Prop} (hK : vx_Back l R p e below s args y 3 W9 Pre Post PostX)
    {g : JFrame} (hg : g.method = m) (hsize : g.locals.size = c.maxLocals) {argsL rest : List Value} (hlen : ∀ sig, parseMethodDescriptor y.desc = some sig → argsL.length = sig.parameters.length)
    (hstack : g.stack = argsL.reverse ++ rest) (hW : 2 * g.monitorRoom + (rest.map fun v => v.category).sum ≤ W9) (hdg : decode c.code g.pc = .ok (.invokestatic index, 3))
    (hpre : ∀ vm₁, s.WarmedH vm₁ → Pre ⟨T.setVm vm₁, locs, cells, slots⟩ argsL.toArray) :
    (∃ (v : Option Value) (vm₁ : Vm) (B : Pt), s.WarmedH vm₁ ∧ Stand p l e R s m args below meth c B.U B.locs B.cells B.slots ∧ Post ⟨T.setVm vm₁, locs, cells, slots⟩ argsL.toArray v B ∧
      ∀ target, Steps p.tables e below (B.U.setTop { g with pc := g.pc + 3, stack := v.toList ++ rest }) target → Steps p.tables e below (T.setTop g) target) ∨
    (∃ (q : Addr) (vm₁ : Vm) (B : Pt), s.WarmedH vm₁ ∧ Stand p l e R s m args below meth c B.U B.locs B.cells B.slots ∧ PostX ⟨T.setVm vm₁, locs, cells, slots⟩ argsL.toArray q B ∧
      Steps p.tables e below (T.setTop g) ((B.U.setTop { g with stack := rest }).pushFrame (.throwing q))) := by
  obtain ⟨mk, hnamed⟩ := Cond.code_named hcode
  obtain ⟨methM, cM, hmethM, -, -, -, -, -, -, hsigM⟩ := Cond.code_spec hnamed hcode
  have hstatic : methM.isStatic = true := Cond.static_spec hnamed hmethM hstat
  obtain ⟨kP, hkP, -⟩ := className_of_methodNamed hnamed
  have hinitP : kP.init = .initialized := Cond.initialized_spec (findClass_of_methodNamed hnamed) hkP hinit
  obtain ⟨vm₁, X₁, hstep₁⟩ := X.invokestatic hexec hown hlink hnamed hmethM hstatic hkP hinitP hy (g := g) hg (argsL := argsL) (rest := rest) (hlen _ hsigM) hstack hdg
  rcases hK m meth c ⟨T.setVm vm₁, locs, cells, slots⟩ { g with stack := rest } (.invokestatic index) mk argsL.toArray X₁ hg hsize hdg hW (X₁.named hnamed) (hpre vm₁ X₁.warmed) with ⟨v, B, X', hpost, hsteps⟩ | ⟨q, B, X', hpost, hsteps⟩
  · exact Or.inl ⟨v, vm₁, B, X₁.warmed, X', hpost, fun target h => hstep₁ _ fun acts => by rw [doInvoke_state]; exact hsteps.trans h⟩
  · exact Or.inr ⟨q, vm₁, B, X₁.warmed, X', hpost, hstep₁ _ fun acts => by rw [doInvoke_state]; exact hsteps⟩
end Calls
theorem vx_cls {s : State} {T : State} {vm₁ : Vm} {E : String} {k : ClassId} (hW : s.WarmedH vm₁) (h : (T.setVm vm₁).vm.findClass E = some k) : s.vm.findClass E = some k := by
  have h1 : vm₁.findClass E = some k := h
  rw [hW.alike.findClass] at h1
  exact h1

def vx_W (p : Program) (l : Launch) (e : Env) (R : Room) (s : State) (m : MethodId) (args : Array Value) (below : List Frame) (meth : Method) (c : Code) (H : Heap) (locs : List Loc) (cells slots : Nat) (Q : State → Prop) (g : JFrame) (q : Addr) : Prop :=
  ∀ T : State, T.heap = H → Stand p l e R s m args below meth c T locs cells slots → ∃ t, Steps p.tables e below ((T.setTop g).pushFrame (.throwing q)) t ∧ Q t
def vx_Run (p : Program) (l : Launch) (e : Env) (R : Room) (s : State) (m : MethodId) (args : Array Value) (below : List Frame) (meth : Method) (c : Code) (H : Heap) (locs : List Loc) (cells slots mc ms : Nat) (g : JFrame) (rest : List Value) (Qa : State → Outcome → State → Prop) (XC : String → State → State → Prop) (free : Addr → Prop) : Prop :=
  ∀ T : State, T.heap = H → Stand p l e R s m args below meth c T locs cells slots →
    (∃ (v : Option Value) (st₀ t T' : State) (L : List Loc), st₀.heap = H ∧ Stand p l e R s m args below meth c T' (locs ++ L) (cells + mc) (slots + ms) ∧ (∀ q ∈ L, free q.base) ∧ T'.heap = t.heap ∧ T'.vm = t.vm ∧ Qa st₀ (.returned v) t ∧
      Goes p e below T g T' { g with pc := g.pc + 3, stack := v.toList ++ rest }) ∨
    (∃ (q : Addr) (st₀ t T' : State) (L : List Loc) (E : String) (ce : Cell), st₀.heap = H ∧ Stand p l e R s m args below meth c T' (locs ++ L) (cells + mc) (slots + ms) ∧ (∀ z ∈ L, free z.base) ∧ T'.heap = t.heap ∧ T'.vm = t.vm ∧ XC E st₀ t ∧ t.heap[q]? = some ce ∧ ce.vm = .none ∧ s.vm.findClass E = some ce.cls ∧
      Steps p.tables e below (T.setTop g) ((T'.setTop { g with stack := rest }).pushFrame (.throwing q)))
def vx_X {S : Type} (px : S → Prop) (B : String → S → State → Prop) (A : Nat → Prop) : String → State → State → Prop := fun E st t => ∃ u : S, px u ∧ B E u t ∧ va_F A st t
section Runs
variable {p : Program} {l : Launch} {e : Env} {R : Room} {s : State} {m : MethodId} {args : Array Value} {below : List Frame} {meth : Method} {c : Code} {H : Heap} {locs : List Loc} {cells slots : Nat}
variable {y : MethodName} {bytes cc : ByteArray} {maxL nL mc ms n index : Nat} {ret : Option FieldType} {ws : List Cond} {rm : Room} {Pc : Array Value → State → Prop} {Qc : Array Value → State → Outcome → State → Prop} {XC : String → State → State → Prop} {free : Addr → Prop} {Ts : List Cond} {own C : String} {b : Addr} {As rest : List Value} {g : JFrame}
theorem vx_callBack (cb : CallB R s args own index y bytes maxL ret ws rm mc ms n) (hM : vx_Met l y ws rm Pc Qc XC mc ms free) (hbl : FrameBlind Pc) : vx_Back l R p e below s args y 3 8 (PreOf R mc ms Pc) (PostOf Qc mc ms free) (vx_Post XC mc ms free) := by
  obtain ⟨hrc, hrs, hfr, hlo, hws, hcw, -, hini, -⟩ := cb
  exact vx_back (bytes := bytes) (maxL := maxL) (ret := ret) hM hbl hrc hrs hfr hlo hws hcw (fun a' U hW => word_at hW (Or.inl (by first | rfl | simp [Cond.onTables, Cond.keeps, Cond.steady])) hini)
theorem vx_runV (S : CallFix p m c cc nL s args Ts own) (hM : vx_Met l y ws rm Pc Qc XC mc ms free) (cw : CallW R s args own C index y bytes maxL ret ws rm mc ms n) (hp : PreV s H C b Pc As)
    (hg : g.method = m) (hn : As.length = n) (hsize : g.locals.size = nL) (hstack : g.stack = As.reverse ++ .ref b :: rest) (hW : 2 * g.monitorRoom + (rest.map fun v => v.category).sum ≤ 8) (hdg : decode cc g.pc = .ok (.invokevirtual index, 3)) (hf : cells + mc ≤ R.cells ∧ slots + ms ≤ R.slots) :
    vx_Run p l e R s m args below meth c H locs cells slots mc ms g rest (Qc (Value.ref b :: As).toArray) XC free := by
  have hK : vx_Back l R p e below s args y 3 8 (PreOf R mc ms Pc) (PostOf Qc mc ms free) (vx_Post XC mc ms free) := vx_callBack cw.1 hM hp.1
  obtain ⟨⟨-, -, -, -, -, -, hcode, -, hy, hlen, hl⟩, hin, hse⟩ := cw
  obtain ⟨hx, hb, hml, ho, -⟩ := S
  obtain ⟨-, ⟨cellB, hcB, hoB, hclB⟩, hPc⟩ := hp
  intro T hT X
  rcases vx_callV X hx (C := C) (bytes := bytes) (maxL := maxL) (ret := ret) ho hl hin hse hcode hy hK (by rw [hT]; exact hcB) hoB hclB hg (hsize.trans hml.symm) (argsL := As) (rest := rest) (fun sig h => hn.trans (hlen sig h)) hstack hW (by rw [hb]; exact hdg)
    (fun vm₁ hW₁ => ⟨hf.1, hf.2, hPc (T.setVm vm₁) hT hW₁⟩) with ⟨v, vm₁, ⟨U', l2, c2, s2⟩, hW₁, X', ⟨g', mk, t, L, e1, e2, hq, h1, hL, h2, h3⟩, st⟩ | ⟨q, vm₁, ⟨U', l2, c2, s2⟩, hW₁, X', ⟨g', mk, t, L, E, ce, e1, e2, hq, hce, hcv, hcl, h1, hL, h2, h3⟩, st⟩
  · dsimp only [Pt.U, Pt.locs, Pt.cells, Pt.slots] at X' e1 e2 h1 h2 h3 st
    subst h1; subst h2; subst h3
    exact Or.inl ⟨v, (T.setVm vm₁).calling g' mk (Value.ref b :: As).toArray, t, U', L, hT, X', hL, e1, e2, hq, st⟩
  · dsimp only [Pt.U, Pt.locs, Pt.cells, Pt.slots] at X' e1 e2 h1 h2 h3 st hcl
    subst h1; subst h2; subst h3
    exact Or.inr ⟨q, (T.setVm vm₁).calling g' mk (Value.ref b :: As).toArray, t, U', L, E, ce, hT, X', hL, e1, e2, hq, hce, hcv, vx_cls hW₁ hcl, st⟩
theorem vx_runS (S : CallFix p m c cc nL s args Ts own) (hM : vx_Met l y ws rm Pc Qc XC mc ms free) (cw : CallB R s args own index y bytes maxL ret ws rm mc ms n ∧ (Cond.static y).before args s = true) (hp : PreS s H Pc As)
    (hg : g.method = m) (hn : As.length = n) (hsize : g.locals.size = nL) (hstack : g.stack = As.reverse ++ rest) (hW : 2 * g.monitorRoom + (rest.map fun v => v.category).sum ≤ 8) (hdg : decode cc g.pc = .ok (.invokestatic index, 3)) (hf : cells + mc ≤ R.cells ∧ slots + ms ≤ R.slots) :
    vx_Run p l e R s m args below meth c H locs cells slots mc ms g rest (Qc As.toArray) XC free := by
  have hK : vx_Back l R p e below s args y 3 8 (PreOf R mc ms Pc) (PostOf Qc mc ms free) (vx_Post XC mc ms free) := vx_callBack cw.1 hM hp.1
  obtain ⟨⟨-, -, -, -, -, -, hcode, hini, hy, hlen, hl⟩, hstt⟩ := cw
  obtain ⟨hx, hb, hml, ho, -⟩ := S
  intro T hT X
  rcases vx_callS X hx (bytes := bytes) (maxL := maxL) (ret := ret) ho hl hstt hini hcode hy hK hg (hsize.trans hml.symm) (argsL := As) (rest := rest) (fun sig h => hn.trans (hlen sig h)) hstack hW (by rw [hb]; exact hdg)
    (fun vm₁ hW₁ => ⟨hf.1, hf.2, hp.2 (T.setVm vm₁) hT hW₁⟩) with ⟨v, vm₁, ⟨U', l2, c2, s2⟩, hW₁, X', ⟨g', mk, t, L, e1, e2, hq, h1, hL, h2, h3⟩, st⟩ | ⟨q, vm₁, ⟨U', l2, c2, s2⟩, hW₁, X', ⟨g', mk, t, L, E, ce, e1, e2, hq, hce, hcv, hcl, h1, hL, h2, h3⟩, st⟩
  · dsimp only [Pt.U, Pt.locs, Pt.cells, Pt.slots] at X' e1 e2 h1 h2 h3 st
    subst h1; subst h2; subst h3
    exact Or.inl ⟨v, (T.setVm vm₁).calling g' mk As.toArray, t, U', L, hT, X', hL, e1, e2, hq, st⟩
  · dsimp only [Pt.U, Pt.locs, Pt.cells, Pt.slots] at X' e1 e2 h1 h2 h3 st hcl
    subst h1; subst h2; subst h3
    exact Or.inr ⟨q, (T.setVm vm₁).calling g' mk As.toArray, t, U', L, E, ce, hT, X', hL, e1, e2, hq, hce, hcv, vx_cls hW₁ hcl, st⟩
end Runs
section Rows
variable {p : Program} {l : Launch} {e : Env} {R : Room} {s : State} {m : MethodId} {args : Array Value} {below : List Frame} {meth : Method} {c : Code} {H : Heap} {locs : List Loc} {cells slots : Nat} {Q : State → Prop}
variable {mc ms : Nat} {free : Addr → Prop} {A0 A1 : Nat → Prop} {H0 : Heap} {a : Array Value} {pc : Nat} {ls : Array Slot} {st0 rest : List Value}
theorem vx_keep {st₀ t T' : State} {L : List Loc} (h0 : st₀.heap = H) (e1 : T'.heap = t.heap) (hS : va_S A0 H0 H locs) (hA : ∀ q, q < H.size → A1 q → A0 q) (hf : ∀ q, free q → A0 q) (hL : ∀ q ∈ L, free q.base) (hF : va_F A1 st₀ t) :
    H.size ≤ T'.heap.size ∧ (∀ q : Nat, q < H.size → ¬ A1 q → T'.heap[q]? = H[q]?) ∧ va_S A0 H0 T'.heap (locs ++ L) := by
  obtain ⟨hz, hk⟩ := hF
  rw [h0] at hz hk
  exact ⟨by rw [e1]; exact hz, fun q h1 h2 => by rw [e1]; exact hk q h1 h2,
    ⟨Nat.le_trans hS.1 (by rw [e1]; exact hz), fun q h1 h2 => by rw [e1, hk q (Nat.lt_of_lt_of_le h1 hS.1) (fun z => h2 (hA q (Nat.lt_of_lt_of_le h1 hS.1) z))]; exact hS.2.1 q h1 h2, fun q hq => by
      rcases List.mem_append.mp hq with h | h
      · exact hS.2.2 q h
      · exact hf _ (hL q h)⟩⟩
theorem vx_calli {S SX : Type} {post : Int32 → S → Prop} {px : SX → Prop} {B : S → State → Prop} {BX : String → SX → State → Prop} {AX : Nat → Prop} (hr : vx_Run p l e R s m args below meth c H locs cells slots mc ms (F0 m pc ls st0) rest (va_Qi post B A1 a) (vx_X px BX AX) free) (hS : va_S A0 H0 H locs) (hA : ∀ q, q < H.size → A1 q → A0 q) (hf : ∀ q, free q → A0 q) (hAX : ∀ q, q < H.size → AX q → A0 q)
    (kx : ∀ (E : String) (ce : Cell) (q9 : Addr) (u : SX) (t : State) (H1 : Heap) (locs1 : List Loc), t.heap = H1 → s.vm.Alike t.vm → px u → BX E u t → H.size ≤ H1.size → (∀ q : Nat, q < H.size → ¬ AX q → H1[q]? = H[q]?) → va_S A0 H0 H1 locs1 → H1[q9]? = some ce → ce.vm = .none → s.vm.findClass E = some ce.cls → vx_W p l e R s m args below meth c H1 locs1 (cells + mc) (slots + ms) Q (F0 m pc ls rest) q9)
    (kk : ∀ (r : Int32) (u : S) (t : State) (H1 : Heap) (locs1 : List Loc), t.heap = H1 → s.vm.Alike t.vm → post r u → B u t → H.size ≤ H1.size → (∀ q : Nat, q < H.size → ¬ A1 q → H1[q]? = H[q]?) → va_S A0 H0 H1 locs1 → W p l e R s m args below meth c H1 locs1 (cells + mc) (slots + ms) Q (F0 m (pc + 3) ls (.int r :: rest))) : W p l e R s m args below meth c H locs cells slots Q (F0 m pc ls st0) := by
  intro T hT X
  rcases hr T hT X with ⟨v, st₀, t, T', L, h0, X', hL, e1, e2, ⟨⟨r, u, hv, hp, hb⟩, hF⟩, st⟩ | ⟨q, st₀, t, T', L, E, ce, h0, X', hL, e1, e2, ⟨u, hp, hb, hF⟩, hce, hcv, hcl, st⟩
  · cases hv
    obtain ⟨k1, k2, k3⟩ := vx_keep h0 e1 hS hA hf hL hF
    obtain ⟨t2, a1, b1⟩ := kk r u t T'.heap (locs ++ L) e1.symm (by rw [← e2]; exact X'.warmed.alike) hp hb k1 k2 k3 T' rfl X'
    exact ⟨t2, st t2 a1, b1⟩
  · obtain ⟨k1, k2, k3⟩ := vx_keep h0 e1 hS hAX hf hL hF
    obtain ⟨t2, a1, b1⟩ := kx E ce q u t T'.heap (locs ++ L) e1.symm (by rw [← e2]; exact X'.warmed.alike) hp hb k1 k2 k3 (by rw [e1]; exact hce) hcv hcl T' rfl X'
    exact ⟨t2, st.trans a1, b1⟩
theorem vx_calll {S SX : Type} {post : Int64 → S → Prop} {px : SX → Prop} {B : S → State → Prop} {BX : String → SX → State → Prop} {AX : Nat → Prop} (hr : vx_Run p l e R s m args below meth c H locs cells slots mc ms (F0 m pc ls st0) rest (va_Ql post B A1 a) (vx_X px BX AX) free) (hS : va_S A0 H0 H locs) (hA : ∀ q, q < H.size → A1 q → A0 q) (hf : ∀ q, free q → A0 q) (hAX : ∀ q, q < H.size → AX q → A0 q)
    (kx : ∀ (E : String) (ce : Cell) (q9 : Addr) (u : SX) (t : State) (H1 : Heap) (locs1 : List Loc), t.heap = H1 → s.vm.Alike t.vm → px u → BX E u t → H.size ≤ H1.size → (∀ q : Nat, q < H.size → ¬ AX q → H1[q]? = H[q]?) → va_S A0 H0 H1 locs1 → H1[q9]? = some ce → ce.vm = .none → s.vm.findClass E = some ce.cls → vx_W p l e R s m args below meth c H1 locs1 (cells + mc) (slots + ms) Q (F0 m pc ls rest) q9)
    (kk : ∀ (r : Int64) (u : S) (t : State) (H1 : Heap) (locs1 : List Loc), t.heap = H1 → s.vm.Alike t.vm → post r u → B u t → H.size ≤ H1.size → (∀ q : Nat, q < H.size → ¬ A1 q → H1[q]? = H[q]?) → va_S A0 H0 H1 locs1 → W p l e R s m args below meth c H1 locs1 (cells + mc) (slots + ms) Q (F0 m (pc + 3) ls (.long r :: rest))) : W p l e R s m args below meth c H locs cells slots Q (F0 m pc ls st0) := by
  intro T hT X
  rcases hr T hT X with ⟨v, st₀, t, T', L, h0, X', hL, e1, e2, ⟨⟨r, u, hv, hp, hb⟩, hF⟩, st⟩ | ⟨q, st₀, t, T', L, E, ce, h0, X', hL, e1, e2, ⟨u, hp, hb, hF⟩, hce, hcv, hcl, st⟩
  · cases hv
    obtain ⟨k1, k2, k3⟩ := vx_keep h0 e1 hS hA hf hL hF
    obtain ⟨t2, a1, b1⟩ := kk r u t T'.heap (locs ++ L) e1.symm (by rw [← e2]; exact X'.warmed.alike) hp hb k1 k2 k3 T' rfl X'
    exact ⟨t2, st t2 a1, b1⟩
  · obtain ⟨k1, k2, k3⟩ := vx_keep h0 e1 hS hAX hf hL hF
    obtain ⟨t2, a1, b1⟩ := kx E ce q u t T'.heap (locs ++ L) e1.symm (by rw [← e2]; exact X'.warmed.alike) hp hb k1 k2 k3 (by rw [e1]; exact hce) hcv hcl T' rfl X'
    exact ⟨t2, st.trans a1, b1⟩
theorem vx_callf {S SX : Type} {post : UInt32 → S → Prop} {px : SX → Prop} {B : S → State → Prop} {BX : String → SX → State → Prop} {AX : Nat → Prop} (hr : vx_Run p l e R s m args below meth c H locs cells slots mc ms (F0 m pc ls st0) rest (va_Qf post B A1 a) (vx_X px BX AX) free) (hS : va_S A0 H0 H locs) (hA : ∀ q, q < H.size → A1 q → A0 q) (hf : ∀ q, free q → A0 q) (hAX : ∀ q, q < H.size → AX q → A0 q)
    (kx : ∀ (E : String) (ce : Cell) (q9 : Addr) (u : SX) (t : State) (H1 : Heap) (locs1 : List Loc), t.heap = H1 → s.vm.Alike t.vm → px u → BX E u t → H.size ≤ H1.size → (∀ q : Nat, q < H.size → ¬ AX q → H1[q]? = H[q]?) → va_S A0 H0 H1 locs1 → H1[q9]? = some ce → ce.vm = .none → s.vm.findClass E = some ce.cls → vx_W p l e R s m args below meth c H1 locs1 (cells + mc) (slots + ms) Q (F0 m pc ls rest) q9)
    (kk : ∀ (r : UInt32) (u : S) (t : State) (H1 : Heap) (locs1 : List Loc), t.heap = H1 → s.vm.Alike t.vm → post r u → B u t → H.size ≤ H1.size → (∀ q : Nat, q < H.size → ¬ A1 q → H1[q]? = H[q]?) → va_S A0 H0 H1 locs1 → W p l e R s m args below meth c H1 locs1 (cells + mc) (slots + ms) Q (F0 m (pc + 3) ls (.float r :: rest))) : W p l e R s m args below meth c H locs cells slots Q (F0 m pc ls st0) := by
  intro T hT X
  rcases hr T hT X with ⟨v, st₀, t, T', L, h0, X', hL, e1, e2, ⟨⟨r, u, hv, hp, hb⟩, hF⟩, st⟩ | ⟨q, st₀, t, T', L, E, ce, h0, X', hL, e1, e2, ⟨u, hp, hb, hF⟩, hce, hcv, hcl, st⟩
  · cases hv
    obtain ⟨k1, k2, k3⟩ := vx_keep h0 e1 hS hA hf hL hF
    obtain ⟨t2, a1, b1⟩ := kk r u t T'.heap (locs ++ L) e1.symm (by rw [← e2]; exact X'.warmed.alike) hp hb k1 k2 k3 T' rfl X'
    exact ⟨t2, st t2 a1, b1⟩
  · obtain ⟨k1, k2, k3⟩ := vx_keep h0 e1 hS hAX hf hL hF
    obtain ⟨t2, a1, b1⟩ := kx E ce q u t T'.heap (locs ++ L) e1.symm (by rw [← e2]; exact X'.warmed.alike) hp hb k1 k2 k3 (by rw [e1]; exact hce) hcv hcl T' rfl X'
    exact ⟨t2, st.trans a1, b1⟩
theorem vx_calld {S SX : Type} {post : UInt64 → S → Prop} {px : SX → Prop} {B : S → State → Prop} {BX : String → SX → State → Prop} {AX : Nat → Prop} (hr : vx_Run p l e R s m args below meth c H locs cells slots mc ms (F0 m pc ls st0) rest (va_Qd post B A1 a) (vx_X px BX AX) free) (hS : va_S A0 H0 H locs) (hA : ∀ q, q < H.size → A1 q → A0 q) (hf : ∀ q, free q → A0 q) (hAX : ∀ q, q < H.size → AX q → A0 q)
    (kx : ∀ (E : String) (ce : Cell) (q9 : Addr) (u : SX) (t : State) (H1 : Heap) (locs1 : List Loc), t.heap = H1 → s.vm.Alike t.vm → px u → BX E u t → H.size ≤ H1.size → (∀ q : Nat, q < H.size → ¬ AX q → H1[q]? = H[q]?) → va_S A0 H0 H1 locs1 → H1[q9]? = some ce → ce.vm = .none → s.vm.findClass E = some ce.cls → vx_W p l e R s m args below meth c H1 locs1 (cells + mc) (slots + ms) Q (F0 m pc ls rest) q9)
    (kk : ∀ (r : UInt64) (u : S) (t : State) (H1 : Heap) (locs1 : List Loc), t.heap = H1 → s.vm.Alike t.vm → post r u → B u t → H.size ≤ H1.size → (∀ q : Nat, q < H.size → ¬ A1 q → H1[q]? = H[q]?) → va_S A0 H0 H1 locs1 → W p l e R s m args below meth c H1 locs1 (cells + mc) (slots + ms) Q (F0 m (pc + 3) ls (.double r :: rest))) : W p l e R s m args below meth c H locs cells slots Q (F0 m pc ls st0) := by
  intro T hT X
  rcases hr T hT X with ⟨v, st₀, t, T', L, h0, X', hL, e1, e2, ⟨⟨r, u, hv, hp, hb⟩, hF⟩, st⟩ | ⟨q, st₀, t, T', L, E, ce, h0, X', hL, e1, e2, ⟨u, hp, hb, hF⟩, hce, hcv, hcl, st⟩
  · cases hv
    obtain ⟨k1, k2, k3⟩ := vx_keep h0 e1 hS hA hf hL hF
    obtain ⟨t2, a1, b1⟩ := kk r u t T'.heap (locs ++ L) e1.symm (by rw [← e2]; exact X'.warmed.alike) hp hb k1 k2 k3 T' rfl X'
    exact ⟨t2, st t2 a1, b1⟩
  · obtain ⟨k1, k2, k3⟩ := vx_keep h0 e1 hS hAX hf hL hF
    obtain ⟨t2, a1, b1⟩ := kx E ce q u t T'.heap (locs ++ L) e1.symm (by rw [← e2]; exact X'.warmed.alike) hp hb k1 k2 k3 (by rw [e1]; exact hce) hcv hcl T' rfl X'
    exact ⟨t2, st.trans a1, b1⟩
theorem vx_callv {S SX : Type} {post : S → Prop} {px : SX → Prop} {B : S → State → Prop} {BX : String → SX → State → Prop} {AX : Nat → Prop} (hr : vx_Run p l e R s m args below meth c H locs cells slots mc ms (F0 m pc ls st0) rest (va_Qv post B A1 a) (vx_X px BX AX) free) (hS : va_S A0 H0 H locs) (hA : ∀ q, q < H.size → A1 q → A0 q) (hf : ∀ q, free q → A0 q) (hAX : ∀ q, q < H.size → AX q → A0 q)
    (kx : ∀ (E : String) (ce : Cell) (q9 : Addr) (u : SX) (t : State) (H1 : Heap) (locs1 : List Loc), t.heap = H1 → s.vm.Alike t.vm → px u → BX E u t → H.size ≤ H1.size → (∀ q : Nat, q < H.size → ¬ AX q → H1[q]? = H[q]?) → va_S A0 H0 H1 locs1 → H1[q9]? = some ce → ce.vm = .none → s.vm.findClass E = some ce.cls → vx_W p l e R s m args below meth c H1 locs1 (cells + mc) (slots + ms) Q (F0 m pc ls rest) q9)
    (kk : ∀ (u : S) (t : State) (H1 : Heap) (locs1 : List Loc), t.heap = H1 → s.vm.Alike t.vm → post u → B u t → H.size ≤ H1.size → (∀ q : Nat, q < H.size → ¬ A1 q → H1[q]? = H[q]?) → va_S A0 H0 H1 locs1 → W p l e R s m args below meth c H1 locs1 (cells + mc) (slots + ms) Q (F0 m (pc + 3) ls (rest))) : W p l e R s m args below meth c H locs cells slots Q (F0 m pc ls st0) := by
  intro T hT X
  rcases hr T hT X with ⟨v, st₀, t, T', L, h0, X', hL, e1, e2, ⟨⟨u, hv, hp, hb⟩, hF⟩, st⟩ | ⟨q, st₀, t, T', L, E, ce, h0, X', hL, e1, e2, ⟨u, hp, hb, hF⟩, hce, hcv, hcl, st⟩
  · cases hv
    obtain ⟨k1, k2, k3⟩ := vx_keep h0 e1 hS hA hf hL hF
    obtain ⟨t2, a1, b1⟩ := kk u t T'.heap (locs ++ L) e1.symm (by rw [← e2]; exact X'.warmed.alike) hp hb k1 k2 k3 T' rfl X'
    exact ⟨t2, st t2 a1, b1⟩
  · obtain ⟨k1, k2, k3⟩ := vx_keep h0 e1 hS hAX hf hL hF
    obtain ⟨t2, a1, b1⟩ := kx E ce q u t T'.heap (locs ++ L) e1.symm (by rw [← e2]; exact X'.warmed.alike) hp hb k1 k2 k3 (by rw [e1]; exact hce) hcv hcl T' rfl X'
    exact ⟨t2, st.trans a1, b1⟩

theorem vx_catch {own name : String} {E : String} {ce : Cell} {q : Addr} (hown : s.vm.findClass own = some m.cls) (pre : List ExceptionTableEntry) (x : ExceptionTableEntry) (suf : List ExceptionTableEntry) (hsplit : c.exceptionTable.toList = pre ++ x :: suf)
    (hpass : ∀ z ∈ pre, covers z pc = false ∨ (z.catchType ≠ 0 ∧ ∃ nm : String, (Cond.classLink own z.catchType nm).before args s = true ∧ va_Nc E nm s)) (hx : covers x pc = true) (h0 : x.catchType ≠ 0)
    (hlink : (Cond.classLink own x.catchType name).before args s = true) (hcast : (Cond.castable E name).before args s = true) (hcell : H[q]? = some ce) (hv : ce.vm = .none) (hcl : s.vm.findClass E = some ce.cls)
    (kk : W p l e R s m args below meth c H locs cells slots Q (F0 m x.handlerPc ls [.ref q])) : vx_W p l e R s m args below meth c H locs cells slots Q (F0 m pc ls rest) q := by
  intro T hT X
  have hpl : e.platform.magicAccessors = ({} : Platform).magicAccessors := by rw [X.admits.platform]
  obtain ⟨c3, c4, hc3, hc4, hasg⟩ := Cond.castable_spec hcast
  cases Option.some.inj (hc3.symm.trans hcl)
  obtain ⟨c5, hc5, hcl5⟩ := Cond.classLink_spec hown hlink e.platform hpl
  cases Option.some.inj (hc4.symm.trans hc5)
  obtain ⟨vm', X', st⟩ := X.thenCaughtThrough q (g := F0 m pc ls rest) rfl (Steps.refl _) (by rw [hT]; exact hcell) (by rw [hv]; rfl) (by obtain ⟨k9, h9, -⟩ := Vm.findClass_spec hcl; exact ⟨k9, h9⟩) pre x suf hsplit
    (fun z hz => by
      rcases hpass z hz with h | ⟨hz0, nm, hl1, hn1⟩
      · exact Or.inl h
      · obtain ⟨c6, hc6, hcl6⟩ := Cond.classLink_spec hown hl1 e.platform hpl
        obtain ⟨a8, b8, h1, h2, h3⟩ := hn1
        cases Option.some.inj (h1.symm.trans hcl)
        cases Option.some.inj (h2.symm.trans hc6)
        exact Or.inr ⟨hz0, _, hcl6, h3⟩) hx (Or.inr ⟨h0, c4, hcl5, hasg⟩)
  obtain ⟨t, a1, b1⟩ := kk (T.setVm vm') hT X'
  exact ⟨t, st.trans a1, b1⟩
end Rows
section Ends
variable {p : Program} {l : Launch} {e : Env} {R : Room} {s : State} {m : MethodId} {args : Array Value} {below : List Frame} {meth : Method} {c : Code} {H : Heap} {locs : List Loc} {cells slots : Nat} {Q : State → Prop}
variable {mc ms : Nat} {free : Addr → Prop} {A0 A1 : Nat → Prop} {H0 : Heap} {a : Array Value} {ls : Array Slot} {st0 rest : List Value}
variable {Qc : Array Value → State → Outcome → State → Prop} {XC : String → State → State → Prop}

def vx_MQ (below : List Frame) (Qc : Array Value → State → Outcome → State → Prop) (XC : String → State → State → Prop) (a : Array Value) (s : State) (mc ms : Nat) (free : Addr → Prop) : State → Prop := fun t =>
  ∃ o, t.status = .running ∧ Ended t below o ∧ vx_Q Qc XC mc ms free a s o t
theorem vx_ret {g : JFrame} {mc ms : Nat} (k : W p l e R s m args below meth c H locs cells slots (MQ below Qc args s mc ms free) g) : W p l e R s m args below meth c H locs cells slots (vx_MQ below Qc XC args s mc ms free) g := by
  intro T hT X
  obtain ⟨t, a1, o, b1, b2, b3, b4⟩ := k T hT X
  exact ⟨t, a1, o, b1, b2, Or.inl ⟨b3, b4⟩⟩

theorem vx_widen {g : JFrame} {q : Addr} {k n : Nat} (h1 : cells ≤ k) (h2 : slots ≤ n) (kk : vx_W p l e R s m args below meth c H locs k n Q g q) : vx_W p l e R s m args below meth c H locs cells slots Q g q := fun T hT X => kk T hT (stand_widen X h1 h2)
theorem vx_out {pc : Nat} {E : String} {ce : Cell} {q : Addr} {mc ms : Nat} (hout : ∀ x ∈ c.exceptionTable.toList, covers x pc = false) (hlocks : meth.locks = false) (hcell : H[q]? = some ce) (hv : ce.vm = .none) (hcl : s.vm.findClass E = some ce.cls)
    (hx : ∀ t : State, t.heap = H → s.vm.Alike t.vm → XC E s t) (hf : ∀ z ∈ locs, free z.base) (hc : cells ≤ mc) (hs : slots ≤ ms) :
    vx_W p l e R s m args below meth c H locs cells slots (vx_MQ below Qc XC args s mc ms free) (F0 m pc ls rest) q := by
  intro T hT X
  obtain ⟨st1, hrun, hend, hW, hsm⟩ := X.leaveThrown q (g := F0 m pc ls rest) rfl rfl rfl hout hlocks
  have hcell9 : (T.setFrames (.throwing q :: below)).heap[q]? = some ce := by
    show T.heap[q]? = some ce
    rw [hT]; exact hcell
  exact ⟨_, st1, .threw q, hrun, hend, Or.inr ⟨q, rfl, E, ce, locs, hx _ hT hW.alike, hcell9, hv, hcl, hW, hsm.mono hc hs, hf⟩⟩
theorem vx_frame {U : State} {k n : Nat} (h : s.sameButNew ({ U with vm := s.vm } : State) locs k n) : s.heap.size ≤ U.heap.size ∧ ∀ q : Nat, q < s.heap.size → (∀ z ∈ locs, z.base ≠ q) → U.heap[q]? = s.heap[q]? := by
  obtain ⟨-, h2, -, -, -, h6⟩ := h
  refine ⟨h2, fun q hq hz => ?_⟩
  obtain ⟨c9, e1, e2, e3, e4⟩ := h6 q _ (Array.getElem?_eq_getElem hq)
  have hs : c9.slots = (s.heap[q]).slots := Array.ext_getElem? fun i => e4 i fun hm => hz _ hm rfl
  have h9 : c9 = s.heap[q] := by
    rw [hs] at e2
    exact e2
  have e5 : U.heap[q]? = some c9 := e1
  rw [e5, h9, Array.getElem?_eq_getElem hq]

def vx_no (w : Cond) : Bool := decide (w ≠ .isRef (.static Bundle.tN "UNASSIGNED_STACK" Bundle.steD)) && decide (w ≠ .isRef (.static Bundle.tN "SUPPRESSED_SENTINEL" Bundle.listD)) && decide (w ≠ .laysStatic Bundle.tN "UNASSIGNED_STACK" Bundle.steD) && decide (w ≠ .laysStatic Bundle.tN "SUPPRESSED_SENTINEL" Bundle.listD)
def vx_at0 (own : String) (ic : Nat) (X : String) (names : List String) : List Cond := (Bundle.ownAtoms0 own ic X names).filter vx_no
def vx_atS (own : String) (ic : Nat) (X : String) (names : List String) : List Cond := (Bundle.ownAtoms own ic X names).filter vx_no

def vx_ot (w : Cond) : Bool := w.onTables || goodWord w
theorem vx_ot_at {args a' : Array Value} {s U : State} {w : Cond} (hW : s.WarmedH U.vm) (hvm : s.vm = U.vm) (hg : vx_ot w = true) (h : w.before args s = true) : w.before a' U = true := by
  simp only [vx_ot, Bool.or_eq_true] at hg
  rcases hg with hg | hg
  · exact va_tabs hg hvm h
  · exact word_at hW (good_of_word hg) h

theorem vx_hat {args : Array Value} {s : State} {L B : List Cond} (h1 : ∀ w ∈ L.filter goodWord, w.before args s = true) (h2 : ∀ w ∈ L.filter (fun w => !goodWord w), w ∈ B) (h3 : ∀ w ∈ B, w.before args s = true) : ∀ w ∈ L, w.before args s = true := by
  intro w hw
  by_cases g : goodWord w = true
  · exact h1 w (List.mem_filter.mpr ⟨hw, g⟩)
  · refine h3 w (h2 w (List.mem_filter.mpr ⟨hw, ?_⟩))
    show (!goodWord w) = true
    cases hgw : goodWord w
    · rfl
    · exact absurd hgw g
theorem vx_c {args : Array Value} {s : State} {w : Cond} {B : List Cond} (h : w.before args s = true) (t : ∀ w ∈ B, w.before args s = true) : ∀ w' ∈ w :: B, w'.before args s = true := fun w' h' => (List.mem_cons.mp h').elim (fun e => by rw [e]; exact h) (t w')
theorem vx_n {args : Array Value} {s : State} : ∀ w ∈ ([] : List Cond), w.before args s = true := fun _ h => nomatch h
theorem vx_own {args : Array Value} {s : State} {L : List Cond} (h1 : ∀ w ∈ L.filter vx_no, w.before args s = true)
    (hU : (Cond.isRef (.static Bundle.tN "UNASSIGNED_STACK" Bundle.steD)).before args s = true) (hN : (Cond.isRef (.static Bundle.tN "SUPPRESSED_SENTINEL" Bundle.listD)).before args s = true)
    (lU : (Cond.laysStatic Bundle.tN "UNASSIGNED_STACK" Bundle.steD).before args s = true) (lN : (Cond.laysStatic Bundle.tN "SUPPRESSED_SENTINEL" Bundle.listD).before args s = true) : ∀ w ∈ L, w.before args s = true := by
  intro w hw
  by_cases e1 : w = .isRef (.static Bundle.tN "UNASSIGNED_STACK" Bundle.steD)
  · rw [e1]; exact hU
  · by_cases e2 : w = .isRef (.static Bundle.tN "SUPPRESSED_SENTINEL" Bundle.listD)
    · rw [e2]; exact hN
    · by_cases e3 : w = .laysStatic Bundle.tN "UNASSIGNED_STACK" Bundle.steD
      · rw [e3]; exact lU
      · by_cases e4 : w = .laysStatic Bundle.tN "SUPPRESSED_SENTINEL" Bundle.listD
        · rw [e4]; exact lN
        · exact h1 w (List.mem_filter.mpr ⟨hw, by unfold vx_no; rw [decide_eq_true e1, decide_eq_true e2, decide_eq_true e3, decide_eq_true e4]; rfl⟩)

def vx_L (C n d : String) (A : Nat → Prop) (U : State) (H : Heap) : Prop := ∃ (c : ClassId) (k : Class) (i : Nat) (f : Field) (a : Nat) (cell : Cell), U.vm.findClass C = some c ∧ U.fieldFound? C n d = some (c, k, i, f) ∧ f.isStatic = true ∧ k.statics = some a ∧ H[a]? = some cell ∧ cell.vm.isStatics = true ∧ cell.cls = c ∧ f.slot < cell.slots.size ∧ k.staticTypes[f.slot]? = some f.type ∧ ¬ A a
theorem vx_L.moved {C n d : String} {A : Nat → Prop} {u U : State} {H : Heap} (hvm : u.vm.Alike U.vm) (h : vx_L C n d A u H) : vx_L C n d A U H := by
  obtain ⟨c, k, i, f, a, cell, h1, h2, h3, h4, h5, h6, h7, h8, h9, h10⟩ := h
  obtain ⟨k', hi', he⟩ := State.fieldFound?_setVm hvm h2
  exact ⟨c, k', i, f, a, cell, by rw [hvm.findClass]; exact h1, hi', h3, by rw [he]; exact h4, h5, h6, h7, h8, by rw [he]; exact h9, h10⟩
theorem vx_L.kept {C n d : String} {A : Nat → Prop} {U : State} {H H1 : Heap} (h : vx_L C n d A U H) (hq : ∀ a : Nat, a < H.size → ¬ A a → H1[a]? = H[a]?) : vx_L C n d A U H1 := by
  obtain ⟨c, k, i, f, a, cell, h1, h2, h3, h4, h5, h6, h7, h8, h9, h10⟩ := h
  exact ⟨c, k, i, f, a, cell, h1, h2, h3, h4, by rw [hq a (Array.getElem?_eq_some_iff.mp h5).1 h10]; exact h5, h6, h7, h8, h9, h10⟩
theorem vx_L.narrow {C n d : String} {A B : Nat → Prop} {U : State} {H : Heap} (h : vx_L C n d A U H) (hAB : ∀ q, B q → A q) : vx_L C n d B U H := by
  obtain ⟨c, k, i, f, a, cell, h1, h2, h3, h4, h5, h6, h7, h8, h9, h10⟩ := h
  exact ⟨c, k, i, f, a, cell, h1, h2, h3, h4, h5, h6, h7, h8, h9, fun z => h10 (hAB _ z)⟩
theorem vx_L.word {C n d : String} {A : Nat → Prop} {s : State} {args : Array Value} (h : vx_L C n d A s s.heap) : (Cond.laysStatic C n d).before args s = true := by
  obtain ⟨c, k, i, f, a, cell, h1, h2, h3, h4, h5, h6, h7, h8, h9, -⟩ := h
  show (Cond.laysStatic C n d).holds args s none s [] = true
  exact Cond.laysStatic_of h1 h2 h3 h4 h5 h6 h7 h8 h9

def vx_Zq (C n d : String) (A : Nat → Prop) (U : State) (H : Heap) : Prop := va_Zq C n d A U H ∧ vx_L C n d A U H
theorem vx_Zq.moved {C n d : String} {A : Nat → Prop} {u U : State} {H : Heap} (hvm : u.vm.Alike U.vm) (h : vx_Zq C n d A u H) : vx_Zq C n d A U H := ⟨va_Zq.moved hvm h.1, vx_L.moved hvm h.2⟩
theorem vx_Zq.kept {C n d : String} {A : Nat → Prop} {U : State} {H H1 : Heap} (h : vx_Zq C n d A U H) (hq : ∀ a : Nat, a < H.size → ¬ A a → H1[a]? = H[a]?) : vx_Zq C n d A U H1 := ⟨va_Zq.kept h.1 hq, vx_L.kept h.2 hq⟩
theorem vx_Zq.narrow {C n d : String} {A B : Nat → Prop} {U : State} {H : Heap} (h : vx_Zq C n d A U H) (hAB : ∀ q, B q → A q) : vx_Zq C n d B U H := ⟨va_Zq.narrow h.1 hAB, vx_L.narrow h.2 hAB⟩
theorem vx_Zqof {args : Array Value} {s : State} {C n d : String} {A : Nat → Prop} (hl : (Cond.laysStatic C n d).before args s = true) (hini : (Cond.initialized C).before args s = true) (h : (Cond.isRef (.static C n d)).before args s = true) (hA : ∀ a : Nat, a < s.heap.size → ¬ A a) : vx_Zq C n d A s s.heap := by
  refine ⟨va_Zqof hl hini h hA, ?_⟩
  obtain ⟨c, k, i, f, a, cell, h1, h2, h3, h4, h5, h6, h7, h8, h9⟩ := Cond.laysStatic_spec hl
  exact ⟨c, k, i, f, a, cell, h1, h2, h3, h4, h5, h6, h7, h8, h9, hA a (Array.getElem?_eq_some_iff.mp h5).1⟩
theorem vx_isRef {C n d : String} {v : Value} {A : Nat → Prop} {s : State} {args : Array Value} (h : va_Z C n d v A s s.heap) (hv : v.isRef = true) : (Cond.isRef (.static C n d)).before args s = true := by
  obtain ⟨cf, kf, fi, f, a, cell, h1, h2, h3, h4, h5, h6, h7, -⟩ := h
  have he : (Term.static C n d).eval args s none [] s = some v := by
    simp [Term.eval, State.fieldNamed?, h1, h2, h4, h5, h6, h7]
  simp only [Cond.before, Cond.holds, Cond.value, he]
  cases v <;> simp_all [Value.isRef]
theorem vx_isRefq {C n d : String} {A : Nat → Prop} {s : State} {args : Array Value} (h : va_Zq C n d A s s.heap) : (Cond.isRef (.static C n d)).before args s = true := by
  rcases h with h | ⟨t, h⟩
  · exact vx_isRef h rfl
  · exact vx_isRef h rfl

theorem vx_rebase {T : State} (X : Stand p l e R s m args below meth c T locs cells slots) {R' : Room} (hf : R'.frames ≤ R.frames) (hl : R'.locals ≤ R.locals) (hc : cells + R'.cells ≤ R.cells) (hs : slots + R'.slots ≤ R.slots) :
    Stand p l e R' ((T.setVm s.vm).setFrames (.invoking m args :: below)) m args below meth c T [] 0 0 := by
  have htop : (T.setVm s.vm).topJava?.isSome := X.here.top
  have hF : ((T.setVm s.vm).setFrames (.invoking m args :: below)).frames = .invoking m args :: below := State.frames_setFrames _ (State.cur_lt_of_top htop)
  obtain ⟨g₀, hg0⟩ := Option.isSome_iff_exists.mp htop
  obtain ⟨r, hr⟩ := State.topJava?_eq_some.mp hg0
  have hl9 : e.platform.stackLimits (T.setVm s.vm).me = e.platform.stackLimits s.me := X.limits
  have hb9 : (T.setVm s.vm).me.stackBytes = s.me.stackBytes := X.bytes
  refine ⟨X.admits, X.cas, X.clock, hF, ?_, X.hears, X.method, X.code, X.here, X.tail, X.warmed, ?_, ?_, ?_⟩
  · have h := X.room
    have hU : ((T.setVm s.vm).setFrames (.invoking m args :: below)).localsInUse = s.localsInUse := by
      rw [State.localsInUse_invoking hF (meth := meth) (c := c) X.method X.code, State.localsInUse_invoking X.frames X.method X.code]
    simp only [State.hasRoom, Bool.and_eq_true, decide_eq_true_eq] at h ⊢
    obtain ⟨⟨⟨⟨h1, h2, h3, h4, h5, h6⟩, h7⟩, h8⟩, h9⟩ := h
    rw [X.frames, List.length_cons] at h2 h3
    have q1 := X.heapSize
    have q2 := X.used
    simp only [hF, hU, List.length_cons, State.stackLimits_setFrames, State.stackBytes_setFrames, hl9, hb9]
    refine ⟨⟨⟨⟨by omega, by omega, by omega, by omega, by omega, h6⟩, ?_⟩, ?_⟩, X.book⟩
    · show T.heap.size + R'.cells ≤ e.platform.maxCells
      omega
    · show T.slotsUsed + R'.slots ≤ e.platform.maxSlots
      omega
  · rw [State.stackLimits_setFrames]; rfl
  · rw [State.stackBytes_setFrames]; rfl
  · refine ⟨?_, Nat.le_refl _, Nat.le_refl _, ?_, ?_, fun a c9 h9 => ⟨c9, h9, rfl, rfl, fun _ _ => rfl⟩⟩
    · obtain ⟨t, ht, -⟩ := State.frames_cons hr
      show T.setVm s.vm = { ((T.setVm s.vm).setFrames (.invoking m args :: below)).setFrames (T.setVm s.vm).frames with heap := T.heap, slotsUsed := T.slotsUsed }
      rw [State.setFrames_setFrames, State.setFrames_self ht]
      rfl
    · show T.slotsUsed = T.slotsUsed + ((T.heap.toList.drop T.heap.size).map (·.slots.size)).sum
      rw [List.drop_eq_nil_of_le (Nat.le_of_eq Array.length_toList)]
      rfl
    · show ((T.heap.toList.drop T.heap.size).map (·.slots.size)).sum ≤ 0
      rw [List.drop_eq_nil_of_le (Nat.le_of_eq Array.length_toList)]
      exact Nat.le_refl _

theorem vx_throw0 {cc : ByteArray} {pc : Nat} (hexec : p.tables.exec = Jvm.exec) (hb : c.code = cc) (hl : l.stackTraces = false) {own cls : String} {names : List String} {ik ic mc ms : Nat} {A : Nat → Prop}
    (hown : s.vm.findClass own = some m.cls) (hcls : Bundle.fit cls = true) (hnames : ∀ n ∈ names, Bundle.fit n = true)
    (hk : (Cond.classLink own ik cls).before args s = true) (hini : (Cond.initialized cls).before args s = true) (hat : ∀ w ∈ vx_at0 own ic cls names, w.before args s = true)
    (hgood : ∀ w ∈ Cond.classLink own ik cls :: Cond.initialized cls :: vx_at0 own ic cls names, vx_ot w = true)
    (hU : vx_Zq Bundle.tN "UNASSIGNED_STACK" Bundle.steD A s s.heap) (hN : vx_Zq Bundle.tN "SUPPRESSED_SENTINEL" Bundle.listD A s s.heap) (hS : va_S A s.heap H locs) (hsize : ls.size = c.maxLocals)
    (d0 : decode cc pc = .ok (.new ik, 3)) (d3 : decode cc (pc + 3) = .ok (.dup, 1)) (d4 : decode cc (pc + 4) = .ok (.invokespecial ic, 3)) (d7 : decode cc (pc + 7) = .ok (.athrow, 1))
    (hout : ∀ x ∈ c.exceptionTable.toList, covers x (pc + 7) = false)
    (hRframes : names.length + 3 < R.frames) (hRlocals : (rest.map fun v => v.category).sum + (13 * (names.length + 1) + 42) ≤ R.locals) (hRcells : cells + 1 ≤ R.cells) (hRslots : slots + 6 ≤ R.slots) (hlocks : meth.locks = false)
    (hx : ∀ t : State, s.vm.Alike t.vm → H.size ≤ t.heap.size → (∀ q : Nat, q < H.size → t.heap[q]? = H[q]?) → XC cls s t)
    (hf : ∀ z ∈ locs, free z.base) (hc : cells + 1 ≤ mc) (hs : slots + 6 ≤ ms) :
    W p l e R s m args below meth c H locs cells slots (vx_MQ below Qc XC args s mc ms free) (F0 m pc ls rest) := by
  intro T hT X
  have htr : e.platform.stackTraces = false := (show e.platform.stackTraces = l.stackTraces by rw [X.admits.platform]).trans hl
  have Y := vx_rebase X (R' := { frames := R.frames, locals := R.locals, cells := 1, slots := 6 }) (Nat.le_refl _) (Nat.le_refl _) hRcells hRslots
  obtain ⟨s', hA⟩ : ∃ z, z = (T.setVm s.vm).setFrames (.invoking m args :: below) := ⟨_, rfl⟩
  rw [← hA] at Y
  have hvm : s'.vm = s.vm := by rw [hA]; rfl
  have hhp : s'.heap = H := by rw [hA]; exact hT
  have hW0 : s.WarmedH s'.vm := by rw [hvm]; exact State.WarmedH.refl s
  have hat' : ∀ w ∈ vx_at0 own ic cls names, w.before args s' = true := fun w hw => vx_ot_at hW0 hvm.symm (hgood w (List.mem_cons_of_mem _ (List.mem_cons_of_mem _ hw))) (hat w hw)
  have hk' : (Cond.classLink own ik cls).before args s' = true := vx_ot_at hW0 hvm.symm (hgood _ List.mem_cons_self) hk
  have hini' : (Cond.initialized cls).before args s' = true := vx_ot_at hW0 hvm.symm (hgood _ (List.mem_cons_of_mem _ List.mem_cons_self)) hini
  have hU' : vx_Zq Bundle.tN "UNASSIGNED_STACK" Bundle.steD A s' s'.heap := by rw [hhp]; exact vx_Zq.moved hW0.alike (hU.kept hS.2.1)
  have hN' : vx_Zq Bundle.tN "SUPPRESSED_SENTINEL" Bundle.listD A s' s'.heap := by rw [hhp]; exact vx_Zq.moved hW0.alike (hN.kept hS.2.1)
  have h : ∀ w ∈ Bundle.ownAtoms0 own ic cls names, w.before args s' = true := vx_own hat' (vx_isRefq hU'.1) (vx_isRefq hN'.1) hU'.2.word hN'.2.word
  have hown' : s'.vm.findClass own = some m.cls := by rw [hvm]; exact hown
  have hins : (Cond.instantiable cls 6).before args s' = true := h _ (by simp [Bundle.ownAtoms0])
  obtain ⟨vm₁, cX, kX, hfX, hkX, -, -, X₁, st1⟩ := Y.newCold hexec (own := own) (C := cls) (index := ik) (n := 6) hown' hk' hins hini'
    (g := F0 m pc ls rest) rfl (by rw [hb]; exact d0) (Nat.le_refl _) (Nat.le_refl _)
  generalize hT1 : (T.setVm vm₁).pushCell { cls := cX, slots := kX.instanceTypes.map defaultValue, vm := .none } = T1 at X₁ st1
  have hcat : (Value.ref T.heap.size).category = 1 := rfl
  have hcellA : T1.heap[T.heap.size]? = some (freshCell cX kX) := by rw [← hT1]; exact State.heap_pushCell_size _ _
  have d3' : decode c.code (pc + 3) = .ok (.dup, 1) := by rw [hb]; exact d3
  obtain ⟨U, hsteps, hrun, hend, hW, hsame, ce, hce, hO⟩ := X₁.ctorThrow0 hexec htr (own := own) (cls := cls) (names := names) (ic := ic) hown' hcls hnames h (fun x hx => nomatch hx) hfX hkX hcellA (by rw [hhp, hT]; exact Nat.le_refl _)
    (g := { method := m, pc := pc + 4, locals := ls, stack := .ref T.heap.size :: .ref T.heap.size :: rest, locked := none }) rfl hsize rfl rfl (rest := rest) rfl
    (by rw [hb]; exact d4) (by rw [hb]; exact d7) hout hRframes (by simp only [List.map_cons, List.sum_cons, hcat]; omega) hlocks
  obtain ⟨f1, f2⟩ := vx_frame hsame
  rw [hhp] at f1 f2
  have hWs : s.WarmedH U.vm := State.WarmedH.trans hW0 hW
  have hcl : s.vm.findClass cls = some ce.cls := by
    have h9 := hO.cls
    rw [hvm] at h9
    exact h9
  have hall : s.sameButNew ({ U with vm := s.vm } : State) locs mc ms := by
    subst hA
    obtain ⟨e1, e2⟩ := hsame
    rw [State.setFrames_setFrames] at e1
    have h2 : (T.setVm s.vm).sameButNew ({ U with vm := s.vm } : State) [] (0 + 1) (0 + 6) := ⟨e1, e2⟩
    have h3 := X.same.trans h2
    rw [List.append_nil] at h3
    exact h3.mono hc hs
  refine ⟨U, ?_, .threw T.heap.size, hrun, hend, Or.inr ⟨T.heap.size, rfl, cls, ce, locs, hx U hWs.alike f1 (fun q hq => f2 q hq (fun z hz => nomatch hz)), hce, hO.vm, hcl, hWs, hall, hf⟩⟩
  refine st1 _ ?_
  show Steps p.tables e below (T1.setTop { method := m, pc := pc + 3, locals := ls, stack := .ref T.heap.size :: rest, locked := none }) _
  jvm_step X₁.here [X₁.here.top, hexec, d3', Value.category]
  exact hsteps

theorem vx_throwS {cc : ByteArray} {pc : Nat} (hexec : p.tables.exec = Jvm.exec) (hb : c.code = cc) (hl : l.stackTraces = false) {own cls text : String} {names : List String} {ik is ic mc ms sa : Nat} {A : Nat → Prop}
    (hown : s.vm.findClass own = some m.cls) (hcls : Bundle.fit cls = true) (hnames : ∀ n ∈ names, Bundle.fit n = true)
    (hk : (Cond.classLink own ik cls).before args s = true) (hini : (Cond.initialized cls).before args s = true) (hstr : vk_R own is text sa s) (hat : ∀ w ∈ vx_atS own ic cls names, w.before args s = true)
    (hgood : ∀ w ∈ Cond.classLink own ik cls :: Cond.initialized cls :: vx_atS own ic cls names, vx_ot w = true)
    (hU : vx_Zq Bundle.tN "UNASSIGNED_STACK" Bundle.steD A s s.heap) (hN : vx_Zq Bundle.tN "SUPPRESSED_SENTINEL" Bundle.listD A s s.heap) (hS : va_S A s.heap H locs) (hsize : ls.size = c.maxLocals)
    (d0 : decode cc pc = .ok (.new ik, 3)) (d3 : decode cc (pc + 3) = .ok (.dup, 1)) (d4 : decode cc (pc + 4) = .ok (.ldc is, 2)) (d6 : decode cc (pc + 6) = .ok (.invokespecial ic, 3)) (d9 : decode cc (pc + 9) = .ok (.athrow, 1))
    (hout : ∀ x ∈ c.exceptionTable.toList, covers x (pc + 9) = false)
    (hRframes : names.length + 3 < R.frames) (hRlocals : (rest.map fun v => v.category).sum + (13 * (names.length + 1) + 43) ≤ R.locals) (hRcells : cells + 1 ≤ R.cells) (hRslots : slots + 6 ≤ R.slots) (hlocks : meth.locks = false)
    (hx : ∀ t : State, s.vm.Alike t.vm → H.size ≤ t.heap.size → (∀ q : Nat, q < H.size → t.heap[q]? = H[q]?) → XC cls s t)
    (hf : ∀ z ∈ locs, free z.base) (hc : cells + 1 ≤ mc) (hs : slots + 6 ≤ ms) :
    W p l e R s m args below meth c H locs cells slots (vx_MQ below Qc XC args s mc ms free) (F0 m pc ls rest) := by
  intro T hT X
  have htr : e.platform.stackTraces = false := (show e.platform.stackTraces = l.stackTraces by rw [X.admits.platform]).trans hl
  have Y := vx_rebase X (R' := { frames := R.frames, locals := R.locals, cells := 1, slots := 6 }) (Nat.le_refl _) (Nat.le_refl _) hRcells hRslots
  obtain ⟨s', hA⟩ : ∃ z, z = (T.setVm s.vm).setFrames (.invoking m args :: below) := ⟨_, rfl⟩
  rw [← hA] at Y
  have hvm : s'.vm = s.vm := by rw [hA]; rfl
  have hhp : s'.heap = H := by rw [hA]; exact hT
  have hW0 : s.WarmedH s'.vm := by rw [hvm]; exact State.WarmedH.refl s
  have hat' : ∀ w ∈ vx_atS own ic cls names, w.before args s' = true := fun w hw => vx_ot_at hW0 hvm.symm (hgood w (List.mem_cons_of_mem _ (List.mem_cons_of_mem _ hw))) (hat w hw)
  have hk' : (Cond.classLink own ik cls).before args s' = true := vx_ot_at hW0 hvm.symm (hgood _ List.mem_cons_self) hk
  have hini' : (Cond.initialized cls).before args s' = true := vx_ot_at hW0 hvm.symm (hgood _ (List.mem_cons_of_mem _ List.mem_cons_self)) hini
  have hU' : vx_Zq Bundle.tN "UNASSIGNED_STACK" Bundle.steD A s' s'.heap := by rw [hhp]; exact vx_Zq.moved hW0.alike (hU.kept hS.2.1)
  have hN' : vx_Zq Bundle.tN "SUPPRESSED_SENTINEL" Bundle.listD A s' s'.heap := by rw [hhp]; exact vx_Zq.moved hW0.alike (hN.kept hS.2.1)
  have h : ∀ w ∈ Bundle.ownAtoms own ic cls names, w.before args s' = true := vx_own hat' (vx_isRefq hU'.1) (vx_isRefq hN'.1) hU'.2.word hN'.2.word
  have hown' : s'.vm.findClass own = some m.cls := by rw [hvm]; exact hown
  have hins : (Cond.instantiable cls 6).before args s' = true := h _ (by simp [Bundle.ownAtoms])
  obtain ⟨vm₁, cX, kX, hfX, hkX, -, -, X₁, st1⟩ := Y.newCold hexec (own := own) (C := cls) (index := ik) (n := 6) hown' hk' hins hini'
    (g := F0 m pc ls rest) rfl (by rw [hb]; exact d0) (Nat.le_refl _) (Nat.le_refl _)
  generalize hT1 : (T.setVm vm₁).pushCell { cls := cX, slots := kX.instanceTypes.map defaultValue, vm := .none } = T1 at X₁ st1
  have hcat : (Value.ref T.heap.size).category = 1 := rfl
  have hcellA : T1.heap[T.heap.size]? = some (freshCell cX kX) := by rw [← hT1]; exact State.heap_pushCell_size _ _
  have d3' : decode c.code (pc + 3) = .ok (.dup, 1) := by rw [hb]; exact d3
  have d4' : decode c.code (pc + 4) = .ok (.ldc is, 2) := by rw [hb]; exact d4
  have hstr' : vk_R own is text sa s' := vk_R.warm hW0 hstr
  obtain ⟨U, hsteps, hrun, hend, hW, hsame, ce, hce, hO⟩ := X₁.ctorThrowS hexec htr (own := own) (cls := cls) (names := names) (ic := ic) hown' hcls hnames h (fun x hx => nomatch hx) hfX hkX hcellA (by rw [hhp, hT]; exact Nat.le_refl _) (msg := .ref sa) rfl
    (g := { method := m, pc := pc + 6, locals := ls, stack := .ref sa :: .ref T.heap.size :: .ref T.heap.size :: rest, locked := none }) rfl hsize rfl rfl (rest := rest) rfl
    (by rw [hb]; exact d6) (by rw [hb]; exact d9) hout hRframes (by simp only [List.map_cons, List.sum_cons, hcat]; omega) hlocks
  obtain ⟨f1, f2⟩ := vx_frame hsame
  rw [hhp] at f1 f2
  have hWs : s.WarmedH U.vm := State.WarmedH.trans hW0 hW
  have hcl : s.vm.findClass cls = some ce.cls := by
    have h9 := hO.cls
    rw [hvm] at h9
    exact h9
  have hall : s.sameButNew ({ U with vm := s.vm } : State) locs mc ms := by
    subst hA
    obtain ⟨e1, e2⟩ := hsame
    rw [State.setFrames_setFrames] at e1
    have h2 : (T.setVm s.vm).sameButNew ({ U with vm := s.vm } : State) [] (0 + 1) (0 + 6) := ⟨e1, e2⟩
    have h3 := X.same.trans h2
    rw [List.append_nil] at h3
    exact h3.mono hc hs
  refine ⟨U, ?_, .threw T.heap.size, hrun, hend, Or.inr ⟨T.heap.size, rfl, cls, ce, locs, hx U hWs.alike f1 (fun q hq => f2 q hq (fun z hz => nomatch hz)), hce, hO.vm, hcl, hWs, hall, hf⟩⟩
  refine st1 _ ?_
  show Steps p.tables e below (T1.setTop { method := m, pc := pc + 3, locals := ls, stack := .ref T.heap.size :: rest, locked := none }) _
  jvm_step X₁.here [X₁.here.top, hexec, d3', Value.category]
  exact X₁.ldcString hexec (own := own) (text := text) (index := is) (a := sa) hown' hstr'.1 hstr'.2
    (g := { method := m, pc := pc + 4, locals := ls, stack := .ref T.heap.size :: .ref T.heap.size :: rest, locked := none }) rfl d4' _ hsteps

theorem vx_throwSW {cc : ByteArray} {pc : Nat} (hexec : p.tables.exec = Jvm.exec) (hb : c.code = cc) (hl : l.stackTraces = false) {own cls text : String} {names : List String} {ik is ic mc ms sa : Nat} {A : Nat → Prop}
    (hown : s.vm.findClass own = some m.cls) (hcls : Bundle.fit cls = true) (hnames : ∀ n ∈ names, Bundle.fit n = true)
    (hk : (Cond.classLink own ik cls).before args s = true) (hini : (Cond.initialized cls).before args s = true) (hstr : vk_R own is text sa s) (hat : ∀ w ∈ vx_atS own ic cls names, w.before args s = true)
    (hgood : ∀ w ∈ Cond.classLink own ik cls :: Cond.initialized cls :: vx_atS own ic cls names, vx_ot w = true)
    (hU : vx_Zq Bundle.tN "UNASSIGNED_STACK" Bundle.steD A s s.heap) (hN : vx_Zq Bundle.tN "SUPPRESSED_SENTINEL" Bundle.listD A s s.heap) (hS : va_S A s.heap H locs) (hsize : ls.size = c.maxLocals)
    (d0 : decode cc pc = .ok (.new ik, 3)) (d3 : decode cc (pc + 3) = .ok (.dup, 1)) (d4 : decode cc (pc + 4) = .ok (.ldc_w is, 3)) (d7 : decode cc (pc + 7) = .ok (.invokespecial ic, 3)) (d10 : decode cc (pc + 10) = .ok (.athrow, 1))
    (hout : ∀ x ∈ c.exceptionTable.toList, covers x (pc + 10) = false)
    (hRframes : names.length + 3 < R.frames) (hRlocals : (rest.map fun v => v.category).sum + (13 * (names.length + 1) + 43) ≤ R.locals) (hRcells : cells + 1 ≤ R.cells) (hRslots : slots + 6 ≤ R.slots) (hlocks : meth.locks = false)
    (hx : ∀ t : State, s.vm.Alike t.vm → H.size ≤ t.heap.size → (∀ q : Nat, q < H.size → t.heap[q]? = H[q]?) → XC cls s t)
    (hf : ∀ z ∈ locs, free z.base) (hc : cells + 1 ≤ mc) (hs : slots + 6 ≤ ms) :
    W p l e R s m args below meth c H locs cells slots (vx_MQ below Qc XC args s mc ms free) (F0 m pc ls rest) := by
  intro T hT X
  have htr : e.platform.stackTraces = false := (show e.platform.stackTraces = l.stackTraces by rw [X.admits.platform]).trans hl
  have Y := vx_rebase X (R' := { frames := R.frames, locals := R.locals, cells := 1, slots := 6 }) (Nat.le_refl _) (Nat.le_refl _) hRcells hRslots
  obtain ⟨s', hA⟩ : ∃ z, z = (T.setVm s.vm).setFrames (.invoking m args :: below) := ⟨_, rfl⟩
  rw [← hA] at Y
  have hvm : s'.vm = s.vm := by rw [hA]; rfl
  have hhp : s'.heap = H := by rw [hA]; exact hT
  have hW0 : s.WarmedH s'.vm := by rw [hvm]; exact State.WarmedH.refl s
  have hat' : ∀ w ∈ vx_atS own ic cls names, w.before args s' = true := fun w hw => vx_ot_at hW0 hvm.symm (hgood w (List.mem_cons_of_mem _ (List.mem_cons_of_mem _ hw))) (hat w hw)
  have hk' : (Cond.classLink own ik cls).before args s' = true := vx_ot_at hW0 hvm.symm (hgood _ List.mem_cons_self) hk
  have hini' : (Cond.initialized cls).before args s' = true := vx_ot_at hW0 hvm.symm (hgood _ (List.mem_cons_of_mem _ List.mem_cons_self)) hini
  have hU' : vx_Zq Bundle.tN "UNASSIGNED_STACK" Bundle.steD A s' s'.heap := by rw [hhp]; exact vx_Zq.moved hW0.alike (hU.kept hS.2.1)
  have hN' : vx_Zq Bundle.tN "SUPPRESSED_SENTINEL" Bundle.listD A s' s'.heap := by rw [hhp]; exact vx_Zq.moved hW0.alike (hN.kept hS.2.1)
  have h : ∀ w ∈ Bundle.ownAtoms own ic cls names, w.before args s' = true := vx_own hat' (vx_isRefq hU'.1) (vx_isRefq hN'.1) hU'.2.word hN'.2.word
  have hown' : s'.vm.findClass own = some m.cls := by rw [hvm]; exact hown
  have hins : (Cond.instantiable cls 6).before args s' = true := h _ (by simp [Bundle.ownAtoms])
  obtain ⟨vm₁, cX, kX, hfX, hkX, -, -, X₁, st1⟩ := Y.newCold hexec (own := own) (C := cls) (index := ik) (n := 6) hown' hk' hins hini'
    (g := F0 m pc ls rest) rfl (by rw [hb]; exact d0) (Nat.le_refl _) (Nat.le_refl _)
  generalize hT1 : (T.setVm vm₁).pushCell { cls := cX, slots := kX.instanceTypes.map defaultValue, vm := .none } = T1 at X₁ st1
  have hcat : (Value.ref T.heap.size).category = 1 := rfl
  have hcellA : T1.heap[T.heap.size]? = some (freshCell cX kX) := by rw [← hT1]; exact State.heap_pushCell_size _ _
  have d3' : decode c.code (pc + 3) = .ok (.dup, 1) := by rw [hb]; exact d3
  have d4' : decode c.code (pc + 4) = .ok (.ldc_w is, 3) := by rw [hb]; exact d4
  have hstr' : vk_R own is text sa s' := vk_R.warm hW0 hstr
  obtain ⟨U, hsteps, hrun, hend, hW, hsame, ce, hce, hO⟩ := X₁.ctorThrowS hexec htr (own := own) (cls := cls) (names := names) (ic := ic) hown' hcls hnames h (fun x hx => nomatch hx) hfX hkX hcellA (by rw [hhp, hT]; exact Nat.le_refl _) (msg := .ref sa) rfl
    (g := { method := m, pc := pc + 7, locals := ls, stack := .ref sa :: .ref T.heap.size :: .ref T.heap.size :: rest, locked := none }) rfl hsize rfl rfl (rest := rest) rfl
    (by rw [hb]; exact d7) (by rw [hb]; exact d10) hout hRframes (by simp only [List.map_cons, List.sum_cons, hcat]; omega) hlocks
  obtain ⟨f1, f2⟩ := vx_frame hsame
  rw [hhp] at f1 f2
  have hWs : s.WarmedH U.vm := State.WarmedH.trans hW0 hW
  have hcl : s.vm.findClass cls = some ce.cls := by
    have h9 := hO.cls
    rw [hvm] at h9
    exact h9
  have hall : s.sameButNew ({ U with vm := s.vm } : State) locs mc ms := by
    subst hA
    obtain ⟨e1, e2⟩ := hsame
    rw [State.setFrames_setFrames] at e1
    have h2 : (T.setVm s.vm).sameButNew ({ U with vm := s.vm } : State) [] (0 + 1) (0 + 6) := ⟨e1, e2⟩
    have h3 := X.same.trans h2
    rw [List.append_nil] at h3
    exact h3.mono hc hs
  refine ⟨U, ?_, .threw T.heap.size, hrun, hend, Or.inr ⟨T.heap.size, rfl, cls, ce, locs, hx U hWs.alike f1 (fun q hq => f2 q hq (fun z hz => nomatch hz)), hce, hO.vm, hcl, hWs, hall, hf⟩⟩
  refine st1 _ ?_
  show Steps p.tables e below (T1.setTop { method := m, pc := pc + 3, locals := ls, stack := .ref T.heap.size :: rest, locked := none }) _
  jvm_step X₁.here [X₁.here.top, hexec, d3', Value.category]
  exact X₁.ldcStringW hexec (own := own) (text := text) (index := is) (a := sa) hown' hstr'.1 hstr'.2
    (g := { method := m, pc := pc + 4, locals := ls, stack := .ref T.heap.size :: .ref T.heap.size :: rest, locked := none }) rfl d4' _ hsteps
end Ends
section Bodies
variable {l : Launch}
theorem vx_ofW {y : MethodName} {ws ws' : List Cond} {rm : Room} {Pc : Array Value → State → Prop} {Qc : Array Value → State → Outcome → State → Prop} {XC : String → State → State → Prop} {mc ms : Nat} {free : Addr → Prop} {cc : ByteArray} {maxL : Nat} {ret : Option FieldType}
    (hy : plainName y.cls = true) (hw : ws = Cond.code y cc maxL ret :: ws')
    (body : ∀ p e s m args below meth c s₁, BodyLoose p l y (headSpec ws rm) cc maxL ret e s m args below meth c s₁ → c.maxLocals = maxL → (∀ x ∈ c.exceptionTable.toList, False) → Pc args s →
      W p l e (headSpec ws rm).room s m args below meth c s.heap [] 0 0 (vx_MQ below Qc XC args s mc ms free) (entryFrame m args maxL)) : vx_Met l y ws rm Pc Qc XC mc ms free := by
  refine MetFree.of_bodyS (code := cc) (maxLocals := maxL) (ret := ret) hy ?_ ?_
  · intro args s m h hn
    obtain ⟨meth, c, h1, h2, h3, h4, h5, h6, -, -⟩ := Cond.code_spec hn (atoms_spec (ws := ws) h _ (by rw [hw]; exact List.mem_cons_self))
    exact ⟨meth, c, h1, h2, h3, h4, h5, h6⟩
  · intro p e s m args below meth c s₁ B hml hP _
    have hh0 : s₁.heap = s.heap := by rw [B.state]; rfl
    have ht : ∀ x ∈ c.exceptionTable.toList, False := by
      obtain ⟨meth9, c9, h1, h2, -, -, -, -, h7, -⟩ := Cond.code_spec B.named (atoms_spec (ws := ws) B.pre _ (by rw [hw]; exact List.mem_cons_self))
      cases Option.some.inj (h1.symm.trans B.method)
      cases Option.some.inj (h2.symm.trans (Stand.of_body B).code)
      intro x hx
      rw [Array.isEmpty_iff.mp h7] at hx
      cases hx
    obtain ⟨t, a1, o, b1, b2, b3⟩ := body p e s m args below meth c s₁ B hml ht hP s₁ hh0 (Stand.of_body B)
    exact ⟨t, o, a1, b1, b2, b3⟩

theorem vx_table {p : Program} {x y : MethodName} {S : Spec} {cc bytes : ByteArray} {maxL maxL' : Nat} {ret ret' : Option FieldType} {e : Env} {s s₁ : State} {m : MethodId} {args : Array Value} {below : List Frame} {meth : Method} {c : Code} {hh : List (Nat × Nat × Nat × Nat)}
    (B : BodyLoose p l y S cc maxL ret e s m args below meth c s₁) (h : (Cond.codeWith y bytes maxL' ret' hh).before args s = true) : c.exceptionTable.toList = tableOf hh := by
  obtain ⟨m9, meth9, c9, hn9, h1, h2, -, -, h6, -⟩ := Cond.codeWith_spec h
  cases Option.some.inj (hn9.symm.trans B.named)
  cases Option.some.inj (h1.symm.trans B.method)
  cases Option.some.inj (h2.symm.trans (Stand.of_body B).code)
  rw [← h6, table_eq]
end Bodies
end VXA


section VXS
variable {p : Program} {l : Launch} {e : Env} {R : Room} {s : State} {m : MethodId} {args : Array Value} {below : List Frame} {meth : Method} {c : Code} {T : State} {H : Heap} {locs : List Loc} {cells slots : Nat}
abbrev vx_CSW (R : Room) (s : State) (args : Array Value) (own : String) (index : Nat) (y : MethodName) (bytes : ByteArray) (maxL : Nat) (ret : Option FieldType) (hh : List (Nat × Nat × Nat × Nat)) (ws : List Cond) (rm : Room) (mc ms n : Nat) : Prop :=
  (rm.cells = mc ∧ rm.slots = ms ∧ rm.frames + 1 ≤ R.frames ∧ 8 + (maxL + 11) + rm.locals ≤ R.locals ∧ (∀ w ∈ ws, ∀ (a' : Array Value) (U : State), s.WarmedH U.vm → w.before a' U = true) ∧ Cond.codeWith y bytes maxL ret hh ∈ ws) ∧
  (Cond.codeWith y bytes maxL ret hh).before args s = true ∧ (Cond.initialized y.cls).before args s = true ∧ (y.cls ≠ "java/lang/invoke/MethodHandle" ∧ y.cls ≠ "java/lang/invoke/VarHandle") ∧
  (∀ sig, parseMethodDescriptor y.desc = some sig → n = sig.parameters.length) ∧ (Cond.methodLink own index y).before args s = true ∧ (Cond.static y).before args s = true
theorem vx_cwSW {own : String} {index maxL mc ms : Nat} {y : MethodName} {bytes : ByteArray} {ret : Option FieldType} {hh : List (Nat × Nat × Nat × Nat)} {Ts ws ws' : List Cond} {rm : Room} (n : Nat) (ht : ∀ w ∈ Ts, w.before args s = true) (hT : GoodIn Ts (va_wsS own index y ws)) (hw : ws = Cond.codeWith y bytes maxL ret hh :: ws') (hrc : rm.cells = mc) (hrs : rm.slots = ms)
    (hd : y.cls ≠ "java/lang/invoke/MethodHandle" ∧ y.cls ≠ "java/lang/invoke/VarHandle" ∧ (parseMethodDescriptor y.desc).map (fun d => d.parameters.length) = some n) (hR : rm.frames + 1 ≤ R.frames ∧ 8 + (maxL + 11) + rm.locals ≤ R.locals) :
    vx_CSW R s args own index y bytes maxL ret hh ws rm mc ms n := by
  have ok : ∀ w ∈ va_wsS own index y ws, w.before args s = true := fun w h => ht w (hT w h).1
  have hG : GoodIn Ts ws := fun w h => hT w (by unfold va_wsS; exact List.mem_append_right _ h)
  have hc : Cond.codeWith y bytes maxL ret hh ∈ ws := by rw [hw]; exact List.mem_cons_self
  refine ⟨⟨hrc, hrs, hR.1, hR.2, pay_in ht hG, hc⟩, ht _ (hG _ hc).1, ok _ (by simp [va_wsS]), ⟨hd.1, hd.2.1⟩, fun sig h => ?_, ok _ (by simp [va_wsS]), ok _ (by simp [va_wsS])⟩
  have h2 := hd.2.2
  rw [h] at h2
  exact (Option.some.inj h2).symm
theorem vx_callSW (X : Stand p l e R s m args below meth c T locs cells slots) (hexec : p.tables.exec = Jvm.exec) {own : String} {index : Nat} {y : MethodName} {bytes : ByteArray} {maxL : Nat} {ret : Option FieldType} {hh : List (Nat × Nat × Nat × Nat)}
    (hown : s.vm.findClass own = some m.cls) (hlink : (Cond.methodLink own index y).before args s = true) (hstat : (Cond.static y).before args s = true) (hinit : (Cond.initialized y.cls).before args s = true)
    (hcode : (Cond.codeWith y bytes maxL ret hh).before args s = true) (hy : y.cls ≠ "java/lang/invoke/MethodHandle" ∧ y.cls ≠ "java/lang/invoke/VarHandle")
    {W9 : Nat} {Pre : Pt → Array Value → Prop} {Post : Pt → Array Value → Option Value → Pt → Prop} (hK : Back l R p e below s args y 3 W9 Pre Post)
    {g : JFrame} (hg : g.method = m) (hsize : g.locals.size = c.maxLocals) {argsL rest : List Value} (hlen : ∀ sig, parseMethodDescriptor y.desc = some sig → argsL.length = sig.parameters.length)
    (hstack : g.stack = argsL.reverse ++ rest) (hW : 2 * g.monitorRoom + (rest.map fun v => v.category).sum ≤ W9) (hdg : decode c.code g.pc = .ok (.invokestatic index, 3))
    (hpre : ∀ vm₁, s.WarmedH vm₁ → Pre ⟨T.setVm vm₁, locs, cells, slots⟩ argsL.toArray) :
    ∃ (v : Option Value) (vm₁ : Vm) (B : Pt), s.WarmedH vm₁ ∧ Stand p l e R s m args below meth c B.U B.locs B.cells B.slots ∧ Post ⟨T.setVm vm₁, locs, cells, slots⟩ argsL.toArray v B ∧
      ∀ target, Steps p.tables e below (B.U.setTop { g with pc := g.pc + 3, stack := v.toList ++ rest }) target → Steps p.tables e below (T.setTop g) target := by
  obtain ⟨mk, methM, cM, hnamed, hmethM, -, -, -, -, -, -, hsigM⟩ := Cond.codeWith_spec hcode
  have hstatic : methM.isStatic = true := Cond.static_spec hnamed hmethM hstat
  obtain ⟨kP, hkP, -⟩ := className_of_methodNamed hnamed
  have hinitP : kP.init = .initialized := Cond.initialized_spec (findClass_of_methodNamed hnamed) hkP hinit
  obtain ⟨vm₁, X₁, hstep₁⟩ := X.invokestatic hexec hown hlink hnamed hmethM hstatic hkP hinitP hy (g := g) hg (argsL := argsL) (rest := rest) (hlen _ hsigM) hstack hdg
  obtain ⟨v, B, X', hpost, hsteps⟩ := hK m meth c ⟨T.setVm vm₁, locs, cells, slots⟩ { g with stack := rest } (.invokestatic index) mk argsL.toArray X₁ hg hsize hdg hW (X₁.named hnamed) (hpre vm₁ X₁.warmed)
  exact ⟨v, vm₁, B, X₁.warmed, X', hpost, fun target h => hstep₁ _ fun acts => by rw [doInvoke_state]; exact hsteps.trans h⟩
theorem vx_runSW {y : MethodName} {bytes cc : ByteArray} {maxL nL mc ms n index : Nat} {ret : Option FieldType} {hh : List (Nat × Nat × Nat × Nat)} {ws : List Cond} {rm : Room} {Pc : Array Value → State → Prop} {Qc : Array Value → State → Outcome → State → Prop} {free : Addr → Prop} {Ts : List Cond} {own : String} {As rest : List Value} {g : JFrame}
    (S : CallFix p m c cc nL s args Ts own) (hM : Met l y ws rm Pc Qc mc ms free) (cw : vx_CSW R s args own index y bytes maxL ret hh ws rm mc ms n) (hp : PreS s H Pc As)
    (hg : g.method = m) (hn : As.length = n) (hsize : g.locals.size = nL) (hstack : g.stack = As.reverse ++ rest) (hW : 2 * g.monitorRoom + (rest.map fun v => v.category).sum ≤ 8) (hdg : decode cc g.pc = .ok (.invokestatic index, 3)) (hf : cells + mc ≤ R.cells ∧ slots + ms ≤ R.slots) :
    va_Run p l e R s m args below meth c H locs cells slots mc ms g rest (Qc As.toArray) (free) := by
  obtain ⟨⟨hrc, hrs, hfr, hlo, hws, hcw⟩, hcode, hini, hy, hlen, hl, hstt⟩ := cw
  have hK : Back l R p e below s args y 3 8 (PreOf R mc ms Pc) (PostOf Qc mc ms free) := va_backW (hh := hh) (bytes := bytes) (maxL := maxL) (ret := ret) hM hp.1 hrc hrs hfr hlo hws hcw (fun a' U hW => word_at hW (Or.inl (by first | rfl | simp [Cond.onTables, Cond.keeps, Cond.steady])) hini)
  obtain ⟨hx, hb, hml, ho, -⟩ := S
  intro T hT X
  obtain ⟨v, vm₁, ⟨U', l2, c2, s2⟩, hW₁, X', ⟨g', mk, t, L, e1, e2, hq, h1, hL, h2, h3⟩, st⟩ := vx_callSW X hx (hh := hh) (bytes := bytes) (maxL := maxL) (ret := ret) ho hl hstt hini hcode hy hK hg (hsize.trans hml.symm) (argsL := As) (rest := rest) (fun sig h => hn.trans (hlen sig h)) hstack hW (by rw [hb]; exact hdg)
    (fun vm₁ hW₁ => ⟨hf.1, hf.2, hp.2 (T.setVm vm₁) hT hW₁⟩)
  dsimp only [Pt.U, Pt.locs, Pt.cells, Pt.slots] at X' e1 e2 h1 h2 h3 st
  subst h1; subst h2; subst h3
  exact ⟨v, (T.setVm vm₁).calling g' mk As.toArray, t, U', L, hT, X', hL, e1, e2, hq, st⟩

theorem vx_outP {p : Program} {l : Launch} {e : Env} {R : Room} {s : State} {m : MethodId} {args : Array Value} {below : List Frame} {meth : Method} {c : Code} {H : Heap} {locs : List Loc} {cells slots : Nat} {free : Addr → Prop} {ls : Array Slot} {rest : List Value} {Qc : Array Value → State → Outcome → State → Prop} {XC : String → State → State → Prop}
    {pc : Nat} {own E : String} {ce : Cell} {q : Addr} {mc ms : Nat} (hown : s.vm.findClass own = some m.cls) (hlocks : meth.locks = false)
    (hpass : ∀ z ∈ c.exceptionTable.toList, covers z pc = false ∨ (z.catchType ≠ 0 ∧ ∃ nm : String, (Cond.classLink own z.catchType nm).before args s = true ∧ va_Nc E nm s)) (hcell : H[q]? = some ce) (hv : ce.vm = .none) (hcl : s.vm.findClass E = some ce.cls)
    (hx : ∀ t : State, t.heap = H → s.vm.Alike t.vm → XC E s t) (hf : ∀ z ∈ locs, free z.base) (hc : cells ≤ mc) (hs : slots ≤ ms) :
    vx_W p l e R s m args below meth c H locs cells slots (vx_MQ below Qc XC args s mc ms free) (F0 m pc ls rest) q := by
  intro T hT X
  have hpl : e.platform.magicAccessors = ({} : Platform).magicAccessors := by rw [X.admits.platform]
  obtain ⟨vm', hW', X', st⟩ := X.outThrough hlocks q (g := F0 m pc ls rest) rfl rfl rfl (cell := ce) (by rw [hT]; exact hcell) (by rw [hv]; rfl)
    (by obtain ⟨k9, h9, -⟩ := Vm.findClass_spec hcl; exact ⟨k9, h9⟩) (fun z hz => by
      rcases hpass z hz with h | ⟨hz0, nm, hl1, hn1⟩
      · exact Or.inl h
      · obtain ⟨c6, hc6, hcl6⟩ := Cond.classLink_spec hown hl1 e.platform hpl
        obtain ⟨a8, b8, h1, h2, h3⟩ := hn1
        cases Option.some.inj (h1.symm.trans hcl)
        cases Option.some.inj (h2.symm.trans hc6)
        exact Or.inr ⟨hz0, _, hcl6, h3⟩)
  obtain ⟨g₀, hfr⟩ := X'.frames_eq
  have hcell9 : ((T.setVm vm').setFrames (.throwing q :: below)).heap[q]? = some ce := by
    show T.heap[q]? = some ce
    rw [hT]; exact hcell
  have hend : Ended ((T.setVm vm').setFrames (.throwing q :: below)) below (.threw q) := State.frames_setFrames _ (State.cur_lt_of_frames hfr)
  refine ⟨(T.setVm vm').setFrames (.throwing q :: below), ?_, .threw q, X'.here.running, hend, Or.inr ⟨q, rfl, E, ce, locs, hx _ hT (X'.ends _).1.alike, hcell9, hv, hcl, (X'.ends _).1, (X'.ends _).2.mono hc hs, hf⟩⟩
  rw [X.pushThrowing_eq]
  exact st

theorem vx_lt {D : va_G} {cl : List vw_C} {ws : va_W} {H1 : Heap} (h : va_P D cl ws H1) {k : Nat} {q : Nat × va_E} (hk : ws[k]? = some q) : q.1 < H1.size := (h k q hk).lt
end VXS


section VXH

section
variable {l : Launch} {R : Room} {p : Program} {e : Env} {below : List Frame} {s : State} {sargs : Array Value} {y : MethodName} {len W9 : Nat}
theorem vx_backW {ws : List Cond} {rm : Room} {Pc : Array Value → State → Prop} {Qc : Array Value → State → Outcome → State → Prop} {XC : String → State → State → Prop} {mc ms : Nat} {free : Addr → Prop} {bytes : ByteArray} {maxL : Nat} {ret : Option FieldType} {hh : List (Nat × Nat × Nat × Nat)}
    (hM : vx_Met l y ws rm Pc Qc XC mc ms free) (hblind : FrameBlind Pc) (hrc : rm.cells = mc) (hrs : rm.slots = ms)
    (hframes : rm.frames + 1 ≤ R.frames) (hlocals : W9 + (maxL + 11) + rm.locals ≤ R.locals)
    (hws : ∀ w ∈ ws, ∀ a' U, s.WarmedH U.vm → w.before a' U = true) (hcode : Cond.codeWith y bytes maxL ret hh ∈ ws) (hinit : ∀ a' U, s.WarmedH U.vm → (Cond.initialized y.cls).before a' U = true) :
    vx_Back l R p e below s sargs y len W9 (PreOf R mc ms Pc) (PostOf Qc mc ms free) (vx_Post XC mc ms free) := by
  intro m meth c A g ig mk a X hg hsize hdg hW hn hp
  have h1 : (headSpec ws rm).pre.before a A.U = true := atoms_intro fun w hw => hws w hw _ _ X.warmed
  have h2 : (Cond.codeWith y bytes maxL ret hh).before a A.U = true := hws _ hcode _ _ X.warmed
  have h3 : (Cond.initialized y.cls).before a A.U = true := hinit _ _ X.warmed
  have h4 : A.cells + (headSpec ws rm).room.cells ≤ R.cells := by rw [show (headSpec ws rm).room.cells = mc from hrc]; exact hp.1
  have h5 : A.slots + (headSpec ws rm).room.slots ≤ R.slots := by rw [show (headSpec ws rm).room.slots = ms from hrs]; exact hp.2.1
  have hPc : Pc a (A.U.calling g mk a) := hblind _ _ _ _ hp.2.2
  obtain ⟨U, Ls, c0, s0⟩ := A
  dsimp only [Pt.U, Pt.locs, Pt.cells, Pt.slots] at h1 h2 h3 h4 h5 X hn hPc ⊢
  obtain ⟨m9, methY, cY, hn9, hmY, hcY, -, hlY, -⟩ := Cond.codeWith_spec h2
  cases Option.some.inj (hn9.symm.trans hn)
  obtain ⟨kY, hkY, -⟩ := className_of_methodNamed hn
  have hinitY : kY.init = .initialized := Cond.initialized_spec (findClass_of_methodNamed hn) hkY h3
  have h : At U g.method c below := by rw [hg]; exact X.here
  have hlocals9 : W9 + (maxL + 11) + (headSpec ws rm).room.locals ≤ R.locals := hlocals
  have happ : (headSpec ws rm).appliesLoose y e.platform (U.calling g mk a) = true :=
    Spec.appliesLoose_calling (g := g) h hdg hn hkY hinitY
      (X.room_calling (g := g) (R' := (headSpec ws rm).room) hsize hmY hcY hframes (by rw [hlY]; omega) h4 h5) h1
  obtain ⟨mid, hmid⟩ := h.above
  have hfr : (U.setTop g).frames = (.java g :: mid) ++ below := by rw [State.frames_setTop' g h.top, hmid]; rfl
  obtain ⟨o, s₂, hsteps, -, hend, hq⟩ := Steps.callFree hM p X.admits X.cas X.clock (acts := []) hfr happ hPc trivial
  have hq' : vx_Q Qc XC mc ms free a (U.calling g mk a) o s₂ := hq
  rw [State.frames_setTop' g h.top] at hend
  obtain ⟨g₀, hg0⟩ := Option.isSome_iff_exists.mp h.top
  obtain ⟨r, hr⟩ := State.topJava?_eq_some.mp hg0
  have hr' : (({ U with heap := s₂.heap, slotsUsed := s₂.slotsUsed } : State).setVm s₂.vm).frames = .java g₀ :: r := hr
  rcases hq' with ⟨hqc, L, hfe, hL⟩ | ⟨q, rfl, E, ce, L, hx, hce, hcv, hcl, hW₂, hsm, hL⟩
  · obtain ⟨⟨v, rfl⟩, hW₂, e2, q2, q3, q4, q5, q6⟩ := id hfe
    have e3 : s₂ = ({ (U.calling g mk a).setFrames s₂.frames with heap := s₂.heap, slotsUsed := s₂.slotsUsed } : State).setVm s₂.vm := by
      have : s₂ = ({ s₂ with vm := (U.calling g mk a).vm } : State).setVm s₂.vm := rfl
      rw [e2] at this
      exact this
    obtain ⟨c₂, i₂, len₂, hc₂, hd₂, hf₂⟩ := hend
    have hW' : U.WarmedH s₂.vm := hW₂
    have hcc : c₂ = c := by
      have h1 : s₂.code? g.method = U.code? g.method := by
        rw [State.code?_eq, State.code?_eq, hW'.alike.method?]
      exact Option.some.inj (hc₂.symm.trans (h1.trans h.code))
    subst hcc
    have hlen : len₂ = len := by rw [hdg] at hd₂; cases hd₂; rfl
    subst hlen
    have hs₂ : s₂ = (({ U with heap := s₂.heap, slotsUsed := s₂.slotsUsed } : State).setVm s₂.vm).setTop { g with pc := g.pc + len₂, stack := v.toList ++ g.stack } := by
      refine e3.trans ?_
      rw [hf₂, State.calling_eq h.top, State.setFrames_setFrames, State.setTop_of_frames _ hr', hr]
      rfl
    have hsame : U.sameButNew ({ U with heap := s₂.heap, slotsUsed := s₂.slotsUsed } : State) L mc ms := by
      refine ⟨?_, q2, q3, q4, q5, q6⟩
      obtain ⟨t, ht, -⟩ := State.frames_cons hr
      show ({ U with heap := s₂.heap, slotsUsed := s₂.slotsUsed } : State) = { U.setFrames U.frames with heap := s₂.heap, slotsUsed := s₂.slotsUsed }
      rw [State.setFrames_self ht]
    subst hg
    refine Or.inl ⟨v, ⟨(({ U with heap := s₂.heap, slotsUsed := s₂.slotsUsed } : State).setVm s₂.vm), Ls ++ L, c0 + mc, s0 + ms⟩,
      ⟨X.admits, X.cas, X.clock, X.frames, X.room, X.hears, X.method, X.code, (X.here.setHeapUsed s₂.heap s₂.slotsUsed).setVm hW'.alike, X.tail, State.WarmedH.trans X.warmed hW', X.limits, X.bytes, X.same.trans (hsame.setVm s.vm)⟩,
      ⟨g, mk, s₂, L, rfl, rfl, hqc, rfl, hL, rfl, rfl⟩, ?_⟩
    show Steps p.tables e below _ ((({ U with heap := s₂.heap, slotsUsed := s₂.slotsUsed } : State).setVm s₂.vm).setTop { g with pc := g.pc + len₂, stack := v.toList ++ g.stack })
    rw [← hs₂]
    exact hsteps
  · obtain ⟨e2, q2, q3, q4, q5, q6⟩ := id hsm
    have e3 : s₂ = ({ (U.calling g mk a).setFrames s₂.frames with heap := s₂.heap, slotsUsed := s₂.slotsUsed } : State).setVm s₂.vm := by
      have : s₂ = ({ s₂ with vm := (U.calling g mk a).vm } : State).setVm s₂.vm := rfl
      rw [e2] at this
      exact this
    have hf₂ : s₂.frames = .throwing q :: .java g :: U.frames.tail := hend
    have hW' : U.WarmedH s₂.vm := hW₂
    have hs₂ : s₂ = ((({ U with heap := s₂.heap, slotsUsed := s₂.slotsUsed } : State).setVm s₂.vm).setTop g).pushFrame (.throwing q) := by
      refine e3.trans ?_
      rw [hf₂, State.calling_eq h.top, State.setFrames_setFrames, State.pushFrame, State.frames_setTop _ hr', State.setTop_of_frames _ hr', State.setFrames_setFrames, hr]
      rfl
    have hsame : U.sameButNew ({ U with heap := s₂.heap, slotsUsed := s₂.slotsUsed } : State) L mc ms := by
      refine ⟨?_, q2, q3, q4, q5, q6⟩
      obtain ⟨t, ht, -⟩ := State.frames_cons hr
      show ({ U with heap := s₂.heap, slotsUsed := s₂.slotsUsed } : State) = { U.setFrames U.frames with heap := s₂.heap, slotsUsed := s₂.slotsUsed }
      rw [State.setFrames_self ht]
    subst hg
    refine Or.inr ⟨q, ⟨(({ U with heap := s₂.heap, slotsUsed := s₂.slotsUsed } : State).setVm s₂.vm), Ls ++ L, c0 + mc, s0 + ms⟩,
      ⟨X.admits, X.cas, X.clock, X.frames, X.room, X.hears, X.method, X.code, (X.here.setHeapUsed s₂.heap s₂.slotsUsed).setVm hW'.alike, X.tail, State.WarmedH.trans X.warmed hW', X.limits, X.bytes, X.same.trans (hsame.setVm s.vm)⟩,
      ⟨g, mk, s₂, L, E, ce, rfl, rfl, hx, hce, hcv, hcl, rfl, hL, rfl, rfl⟩, ?_⟩
    show Steps p.tables e below _ (((({ U with heap := s₂.heap, slotsUsed := s₂.slotsUsed } : State).setVm s₂.vm).setTop g).pushFrame (.throwing q))
    rw [← hs₂]
    exact hsteps
end
variable {p : Program} {l : Launch} {e : Env} {R : Room} {s : State} {m : MethodId} {args : Array Value} {below : List Frame} {meth : Method} {c : Code} {T : State} {H : Heap} {locs : List Loc} {cells slots : Nat}
theorem vx_callVX (X : Stand p l e R s m args below meth c T locs cells slots) (hexec : p.tables.exec = Jvm.exec) {own C : String} {index : Nat} {y : MethodName} {bytes : ByteArray} {maxL : Nat} {ret : Option FieldType} {hh : List (Nat × Nat × Nat × Nat)}
    (hown : s.vm.findClass own = some m.cls) (hlink : (Cond.methodLink own index y).before args s = true) (hinst : (Cond.instanceMethod y).before args s = true) (hsel : (Cond.selects C y y).before args s = true)
    (hcode : (Cond.codeWith y bytes maxL ret hh).before args s = true) (hy : y.cls ≠ "java/lang/invoke/MethodHandle" ∧ y.cls ≠ "java/lang/invoke/VarHandle")
    {W9 : Nat} {Pre : Pt → Array Value → Prop} {Post : Pt → Array Value → Option Value → Pt → Prop} {PostX : Pt → Array Value → Addr → Pt → Prop} (hK : vx_Back l R p e below s args y 3 W9 Pre Post PostX)
    {b : Addr} {cellB : Cell} (hcell : T.heap[b]? = some cellB) (hobj : cellB.vm.isStatics = false) (hcls : s.vm.findClass C = some cellB.cls)
    {g : JFrame} (hg : g.method = m) (hsize : g.locals.size = c.maxLocals) {argsL rest : List Value} (hlen : ∀ sig, parseMethodDescriptor y.desc = some sig → argsL.length = sig.parameters.length)
    (hstack : g.stack = argsL.reverse ++ .ref b :: rest) (hW : 2 * g.monitorRoom + (rest.map fun v => v.category).sum ≤ W9) (hdg : decode c.code g.pc = .ok (.invokevirtual index, 3))
    (hpre : ∀ vm₁, s.WarmedH vm₁ → Pre ⟨T.setVm vm₁, locs, cells, slots⟩ (Value.ref b :: argsL).toArray) :
    (∃ (v : Option Value) (vm₁ : Vm) (B : Pt), s.WarmedH vm₁ ∧ Stand p l e R s m args below meth c B.U B.locs B.cells B.slots ∧ Post ⟨T.setVm vm₁, locs, cells, slots⟩ (Value.ref b :: argsL).toArray v B ∧
      ∀ target, Steps p.tables e below (B.U.setTop { g with pc := g.pc + 3, stack := v.toList ++ rest }) target → Steps p.tables e below (T.setTop g) target) ∨
    (∃ (q : Addr) (vm₁ : Vm) (B : Pt), s.WarmedH vm₁ ∧ Stand p l e R s m args below meth c B.U B.locs B.cells B.slots ∧ PostX ⟨T.setVm vm₁, locs, cells, slots⟩ (Value.ref b :: argsL).toArray q B ∧
      Steps p.tables e below (T.setTop g) ((B.U.setTop { g with stack := rest }).pushFrame (.throwing q))) := by
  obtain ⟨mk, methM, hnamed, hmethM, hstM, habM⟩ := Cond.instanceMethod_spec hinst
  obtain ⟨m8, methM', cM, hn8, hmethM', -, -, -, -, -, -, hsigM⟩ := Cond.codeWith_spec hcode
  cases Option.some.inj (hn8.symm.trans hnamed)
  cases hmethM.symm.trans hmethM'
  obtain ⟨c2, r2, m2, q1, q2, q3, q4, kP, hkP, hkPi⟩ := Cond.selects_spec hsel
  cases hcls.symm.trans q1
  cases (State.methodFound?_of_named hnamed hy).symm.trans q2
  cases hnamed.symm.trans q3
  have hselP : selectMethod e.platform s.vm cellB.cls mk = .method mk := by rw [Launch.admits_selectMethod X.admits]; exact q4
  obtain ⟨vm₁, X₁, hstep₁⟩ := X.invokevirtual hexec hown hlink hnamed hmethM hstM hkP hkPi hy (a := b) (cell := cellB) hcell
    (fun z h => by rw [h] at hobj; cases hobj) hselP hmethM habM hkP hkPi (g := g) hg (argsL := argsL) (rest := rest) (hlen _ hsigM) hstack hdg
  rcases hK m meth c ⟨T.setVm vm₁, locs, cells, slots⟩ { g with stack := rest } (.invokevirtual index) mk (Value.ref b :: argsL).toArray X₁ hg hsize hdg hW (X₁.named hnamed) (hpre vm₁ X₁.warmed) with ⟨v, B, X', hpost, hsteps⟩ | ⟨q, B, X', hpost, hsteps⟩
  · exact Or.inl ⟨v, vm₁, B, X₁.warmed, X', hpost, fun target h => hstep₁ _ fun acts => by rw [doInvoke_state]; exact hsteps.trans h⟩
  · exact Or.inr ⟨q, vm₁, B, X₁.warmed, X', hpost, hstep₁ _ fun acts => by rw [doInvoke_state]; exact hsteps⟩
theorem vx_callSX (X : Stand p l e R s m args below meth c T locs cells slots) (hexec : p.tables.exec = Jvm.exec) {own : String} {index : Nat} {y : MethodName} {bytes : ByteArray} {maxL : Nat} {ret : Option FieldType} {hh : List (Nat × Nat × Nat × Nat)}
    (hown : s.vm.findClass own = some m.cls) (hlink : (Cond.methodLink own index y).before args s = true) (hstat : (Cond.static y).before args s = true) (hinit : (Cond.initialized y.cls).before args s = true)
    (hcode : (Cond.codeWith y bytes maxL ret hh).before args s = true) (hy : y.cls ≠ "java/lang/invoke/MethodHandle" ∧ y.cls ≠ "java/lang/invoke/VarHandle")
    {W9 : Nat} {Pre : Pt → Array Value → Prop} {Post : Pt → Array Value → Option Value → Pt → Prop} {PostX : Pt → Array Value → Addr → Pt → Prop} (hK : vx_Back l R p e below s args y 3 W9 Pre Post PostX)
    {g : JFrame} (hg : g.method = m) (hsize : g.locals.size = c.maxLocals) {argsL rest : List Value} (hlen : ∀ sig, parseMethodDescriptor y.desc = some sig → argsL.length = sig.parameters.length)
    (hstack : g.stack = argsL.reverse ++ rest) (hW : 2 * g.monitorRoom + (rest.map fun v => v.category).sum ≤ W9) (hdg : decode c.code g.pc = .ok (.invokestatic index, 3))
    (hpre : ∀ vm₁, s.WarmedH vm₁ → Pre ⟨T.setVm vm₁, locs, cells, slots⟩ argsL.toArray) :
    (∃ (v : Option Value) (vm₁ : Vm) (B : Pt), s.WarmedH vm₁ ∧ Stand p l e R s m args below meth c B.U B.locs B.cells B.slots ∧ Post ⟨T.setVm vm₁, locs, cells, slots⟩ argsL.toArray v B ∧
      ∀ target, Steps p.tables e below (B.U.setTop { g with pc := g.pc + 3, stack := v.toList ++ rest }) target → Steps p.tables e below (T.setTop g) target) ∨
    (∃ (q : Addr) (vm₁ : Vm) (B : Pt), s.WarmedH vm₁ ∧ Stand p l e R s m args below meth c B.U B.locs B.cells B.slots ∧ PostX ⟨T.setVm vm₁, locs, cells, slots⟩ argsL.toArray q B ∧
      Steps p.tables e below (T.setTop g) ((B.U.setTop { g with stack := rest }).pushFrame (.throwing q))) := by
  obtain ⟨mk, methM, cM, hnamed, hmethM, -, -, -, -, -, -, hsigM⟩ := Cond.codeWith_spec hcode
  have hstatic : methM.isStatic = true := Cond.static_spec hnamed hmethM hstat
  obtain ⟨kP, hkP, -⟩ := className_of_methodNamed hnamed
  have hinitP : kP.init = .initialized := Cond.initialized_spec (findClass_of_methodNamed hnamed) hkP hinit
  obtain ⟨vm₁, X₁, hstep₁⟩ := X.invokestatic hexec hown hlink hnamed hmethM hstatic hkP hinitP hy (g := g) hg (argsL := argsL) (rest := rest) (hlen _ hsigM) hstack hdg
  rcases hK m meth c ⟨T.setVm vm₁, locs, cells, slots⟩ { g with stack := rest } (.invokestatic index) mk argsL.toArray X₁ hg hsize hdg hW (X₁.named hnamed) (hpre vm₁ X₁.warmed) with ⟨v, B, X', hpost, hsteps⟩ | ⟨q, B, X', hpost, hsteps⟩
  · exact Or.inl ⟨v, vm₁, B, X₁.warmed, X', hpost, fun target h => hstep₁ _ fun acts => by rw [doInvoke_state]; exact hsteps.trans h⟩
  · exact Or.inr ⟨q, vm₁, B, X₁.warmed, X', hpost, hstep₁ _ fun acts => by rw [doInvoke_state]; exact hsteps⟩
theorem vx_callVW (X : Stand p l e R s m args below meth c T locs cells slots) (hexec : p.tables.exec = Jvm.exec) {own C : String} {index : Nat} {y : MethodName} {bytes : ByteArray} {maxL : Nat} {ret : Option FieldType} {hh : List (Nat × Nat × Nat × Nat)}
    (hown : s.vm.findClass own = some m.cls) (hlink : (Cond.methodLink own index y).before args s = true) (hinst : (Cond.instanceMethod y).before args s = true) (hsel : (Cond.selects C y y).before args s = true)
    (hcode : (Cond.codeWith y bytes maxL ret hh).before args s = true) (hy : y.cls ≠ "java/lang/invoke/MethodHandle" ∧ y.cls ≠ "java/lang/invoke/VarHandle")
    {W9 : Nat} {Pre : Pt → Array Value → Prop} {Post : Pt → Array Value → Option Value → Pt → Prop} (hK : Back l R p e below s args y 3 W9 Pre Post)
    {b : Addr} {cellB : Cell} (hcell : T.heap[b]? = some cellB) (hobj : cellB.vm.isStatics = false) (hcls : s.vm.findClass C = some cellB.cls)
    {g : JFrame} (hg : g.method = m) (hsize : g.locals.size = c.maxLocals) {argsL rest : List Value} (hlen : ∀ sig, parseMethodDescriptor y.desc = some sig → argsL.length = sig.parameters.length)
    (hstack : g.stack = argsL.reverse ++ .ref b :: rest) (hW : 2 * g.monitorRoom + (rest.map fun v => v.category).sum ≤ W9) (hdg : decode c.code g.pc = .ok (.invokevirtual index, 3))
    (hpre : ∀ vm₁, s.WarmedH vm₁ → Pre ⟨T.setVm vm₁, locs, cells, slots⟩ (Value.ref b :: argsL).toArray) :
    ∃ (v : Option Value) (vm₁ : Vm) (B : Pt), s.WarmedH vm₁ ∧ Stand p l e R s m args below meth c B.U B.locs B.cells B.slots ∧ Post ⟨T.setVm vm₁, locs, cells, slots⟩ (Value.ref b :: argsL).toArray v B ∧
      ∀ target, Steps p.tables e below (B.U.setTop { g with pc := g.pc + 3, stack := v.toList ++ rest }) target → Steps p.tables e below (T.setTop g) target := by
  obtain ⟨mk, methM, hnamed, hmethM, hstM, habM⟩ := Cond.instanceMethod_spec hinst
  obtain ⟨m8, methM', cM, hn8, hmethM', -, -, -, -, -, -, hsigM⟩ := Cond.codeWith_spec hcode
  cases Option.some.inj (hn8.symm.trans hnamed)
  cases hmethM.symm.trans hmethM'
  obtain ⟨c2, r2, m2, q1, q2, q3, q4, kP, hkP, hkPi⟩ := Cond.selects_spec hsel
  cases hcls.symm.trans q1
  cases (State.methodFound?_of_named hnamed hy).symm.trans q2
  cases hnamed.symm.trans q3
  have hselP : selectMethod e.platform s.vm cellB.cls mk = .method mk := by rw [Launch.admits_selectMethod X.admits]; exact q4
  obtain ⟨vm₁, X₁, hstep₁⟩ := X.invokevirtual hexec hown hlink hnamed hmethM hstM hkP hkPi hy (a := b) (cell := cellB) hcell
    (fun z h => by rw [h] at hobj; cases hobj) hselP hmethM habM hkP hkPi (g := g) hg (argsL := argsL) (rest := rest) (hlen _ hsigM) hstack hdg
  obtain ⟨v, B, X', hpost, hsteps⟩ := hK m meth c ⟨T.setVm vm₁, locs, cells, slots⟩ { g with stack := rest } (.invokevirtual index) mk (Value.ref b :: argsL).toArray X₁ hg hsize hdg hW (X₁.named hnamed) (hpre vm₁ X₁.warmed)
  exact ⟨v, vm₁, B, X₁.warmed, X', hpost, fun target h => hstep₁ _ fun acts => by rw [doInvoke_state]; exact hsteps.trans h⟩
abbrev vx_CVW (R : Room) (s : State) (args : Array Value) (own C : String) (index : Nat) (y : MethodName) (bytes : ByteArray) (maxL : Nat) (ret : Option FieldType) (hh : List (Nat × Nat × Nat × Nat)) (ws : List Cond) (rm : Room) (mc ms n : Nat) : Prop :=
  (rm.cells = mc ∧ rm.slots = ms ∧ rm.frames + 1 ≤ R.frames ∧ 8 + (maxL + 11) + rm.locals ≤ R.locals ∧ (∀ w ∈ ws, ∀ (a' : Array Value) (U : State), s.WarmedH U.vm → w.before a' U = true) ∧ Cond.codeWith y bytes maxL ret hh ∈ ws) ∧
  (Cond.codeWith y bytes maxL ret hh).before args s = true ∧ (Cond.initialized y.cls).before args s = true ∧ (y.cls ≠ "java/lang/invoke/MethodHandle" ∧ y.cls ≠ "java/lang/invoke/VarHandle") ∧
  (∀ sig, parseMethodDescriptor y.desc = some sig → n = sig.parameters.length) ∧ (Cond.methodLink own index y).before args s = true ∧ (Cond.instanceMethod y).before args s = true ∧ (Cond.selects C y y).before args s = true
theorem vx_cwVW {own C : String} {index maxL mc ms : Nat} {y : MethodName} {bytes : ByteArray} {ret : Option FieldType} {hh : List (Nat × Nat × Nat × Nat)} {Ts ws ws' : List Cond} {rm : Room} (n : Nat) (ht : ∀ w ∈ Ts, w.before args s = true) (hT : GoodIn Ts (wsV own index C y ws)) (hw : ws = Cond.codeWith y bytes maxL ret hh :: ws') (hrc : rm.cells = mc) (hrs : rm.slots = ms)
    (hd : y.cls = C ∧ y.cls ≠ "java/lang/invoke/MethodHandle" ∧ y.cls ≠ "java/lang/invoke/VarHandle" ∧ (parseMethodDescriptor y.desc).map (fun d => d.parameters.length) = some n) (hR : rm.frames + 1 ≤ R.frames ∧ 8 + (maxL + 11) + rm.locals ≤ R.locals) :
    vx_CVW R s args own C index y bytes maxL ret hh ws rm mc ms n := by
  obtain ⟨hC, hd⟩ := hd
  subst hC
  have ok : ∀ w ∈ wsV own index y.cls y ws, w.before args s = true := fun w h => ht w (hT w h).1
  have hG : GoodIn Ts ws := fun w h => hT w (by unfold wsV; exact List.mem_append_right _ h)
  have hc : Cond.codeWith y bytes maxL ret hh ∈ ws := by rw [hw]; exact List.mem_cons_self
  refine ⟨⟨hrc, hrs, hR.1, hR.2, pay_in ht hG, hc⟩, ht _ (hG _ hc).1, ok _ (by simp [wsV]), ⟨hd.1, hd.2.1⟩, fun sig h => ?_, ok _ (by simp [wsV]), ok _ (by simp [wsV]), ok _ (by simp [wsV])⟩
  have h2 := hd.2.2
  rw [h] at h2
  exact (Option.some.inj h2).symm
theorem vx_runVW {y : MethodName} {bytes cc : ByteArray} {maxL nL mc ms n index : Nat} {ret : Option FieldType} {hh : List (Nat × Nat × Nat × Nat)} {ws : List Cond} {rm : Room} {Pc : Array Value → State → Prop} {Qc : Array Value → State → Outcome → State → Prop} {free : Addr → Prop} {Ts : List Cond} {own C : String} {b : Addr} {As rest : List Value} {g : JFrame}
    (S : CallFix p m c cc nL s args Ts own) (hM : Met l y ws rm Pc Qc mc ms free) (cw : vx_CVW R s args own C index y bytes maxL ret hh ws rm mc ms n) (hp : PreV s H C b Pc As)
    (hg : g.method = m) (hn : As.length = n) (hsize : g.locals.size = nL) (hstack : g.stack = As.reverse ++ .ref b :: rest) (hW : 2 * g.monitorRoom + (rest.map fun v => v.category).sum ≤ 8) (hdg : decode cc g.pc = .ok (.invokevirtual index, 3)) (hf : cells + mc ≤ R.cells ∧ slots + ms ≤ R.slots) :
    va_Run p l e R s m args below meth c H locs cells slots mc ms g rest (Qc (Value.ref b :: As).toArray) free := by
  obtain ⟨⟨hrc, hrs, hfr, hlo, hws, hcw⟩, hcode, hini, hy, hlen, hl, hin, hse⟩ := cw
  have hK : Back l R p e below s args y 3 8 (PreOf R mc ms Pc) (PostOf Qc mc ms free) := va_backW (hh := hh) (bytes := bytes) (maxL := maxL) (ret := ret) hM hp.1 hrc hrs hfr hlo hws hcw (fun a' U hW => word_at hW (Or.inl (by first | rfl | simp [Cond.onTables, Cond.keeps, Cond.steady])) hini)
  obtain ⟨hx, hb, hml, ho, -⟩ := S
  obtain ⟨-, ⟨cellB, hcB, hoB, hclB⟩, hPc⟩ := hp
  intro T hT X
  obtain ⟨v, vm₁, ⟨U', l2, c2, s2⟩, hW₁, X', ⟨g', mk, t, L, e1, e2, hq, h1, hL, h2, h3⟩, st⟩ := vx_callVW X hx (C := C) (hh := hh) (bytes := bytes) (maxL := maxL) (ret := ret) ho hl hin hse hcode hy hK (by rw [hT]; exact hcB) hoB hclB hg (hsize.trans hml.symm) (argsL := As) (rest := rest) (fun sig h => hn.trans (hlen sig h)) hstack hW (by rw [hb]; exact hdg)
    (fun vm₁ hW₁ => ⟨hf.1, hf.2, hPc (T.setVm vm₁) hT hW₁⟩)
  dsimp only [Pt.U, Pt.locs, Pt.cells, Pt.slots] at X' e1 e2 h1 h2 h3 st
  subst h1; subst h2; subst h3
  exact ⟨v, (T.setVm vm₁).calling g' mk (Value.ref b :: As).toArray, t, U', L, hT, X', hL, e1, e2, hq, st⟩
section
variable {y : MethodName} {bytes cc : ByteArray} {maxL nL mc ms n index : Nat} {ret : Option FieldType} {ws : List Cond} {rm : Room} {Pc : Array Value → State → Prop} {Qc : Array Value → State → Outcome → State → Prop} {XC : String → State → State → Prop} {free : Addr → Prop} {Ts : List Cond} {own C : String} {b : Addr} {As rest : List Value} {g : JFrame}
theorem vx_runVX {hh : List (Nat × Nat × Nat × Nat)} (S : CallFix p m c cc nL s args Ts own) (hM : vx_Met l y ws rm Pc Qc XC mc ms free) (cw : vx_CVW R s args own C index y bytes maxL ret hh ws rm mc ms n) (hp : PreV s H C b Pc As)
    (hg : g.method = m) (hn : As.length = n) (hsize : g.locals.size = nL) (hstack : g.stack = As.reverse ++ .ref b :: rest) (hW : 2 * g.monitorRoom + (rest.map fun v => v.category).sum ≤ 8) (hdg : decode cc g.pc = .ok (.invokevirtual index, 3)) (hf : cells + mc ≤ R.cells ∧ slots + ms ≤ R.slots) :
    vx_Run p l e R s m args below meth c H locs cells slots mc ms g rest (Qc (Value.ref b :: As).toArray) XC free := by
  obtain ⟨⟨hrc, hrs, hfr, hlo, hws, hcw⟩, hcode, hini, hy, hlen, hl, hin, hse⟩ := cw
  have hK : vx_Back l R p e below s args y 3 8 (PreOf R mc ms Pc) (PostOf Qc mc ms free) (vx_Post XC mc ms free) := vx_backW (hh := hh) (bytes := bytes) (maxL := maxL) (ret := ret) hM hp.1 hrc hrs hfr hlo hws hcw (fun a' U hW => word_at hW (Or.inl (by first | rfl | simp [Cond.onTables, Cond.keeps, Cond.steady])) hini)
  obtain ⟨hx, hb, hml, ho, -⟩ := S
  obtain ⟨-, ⟨cellB, hcB, hoB, hclB⟩, hPc⟩ := hp
  intro T hT X
  rcases vx_callVX X hx (C := C) (hh := hh) (bytes := bytes) (maxL := maxL) (ret := ret) ho hl hin hse hcode hy hK (by rw [hT]; exact hcB) hoB hclB hg (hsize.trans hml.symm) (argsL := As) (rest := rest) (fun sig h => hn.trans (hlen sig h)) hstack hW (by rw [hb]; exact hdg)
    (fun vm₁ hW₁ => ⟨hf.1, hf.2, hPc (T.setVm vm₁) hT hW₁⟩) with ⟨v, vm₁, ⟨U', l2, c2, s2⟩, hW₁, X', ⟨g', mk, t, L, e1, e2, hq, h1, hL, h2, h3⟩, st⟩ | ⟨q, vm₁, ⟨U', l2, c2, s2⟩, hW₁, X', ⟨g', mk, t, L, E, ce, e1, e2, hq, hce, hcv, hcl, h1, hL, h2, h3⟩, st⟩
  · dsimp only [Pt.U, Pt.locs, Pt.cells, Pt.slots] at X' e1 e2 h1 h2 h3 st
    subst h1; subst h2; subst h3
    exact Or.inl ⟨v, (T.setVm vm₁).calling g' mk (Value.ref b :: As).toArray, t, U', L, hT, X', hL, e1, e2, hq, st⟩
  · dsimp only [Pt.U, Pt.locs, Pt.cells, Pt.slots] at X' e1 e2 h1 h2 h3 st hcl
    subst h1; subst h2; subst h3
    exact Or.inr ⟨q, (T.setVm vm₁).calling g' mk (Value.ref b :: As).toArray, t, U', L, E, ce, hT, X', hL, e1, e2, hq, hce, hcv, vx_cls hW₁ hcl, st⟩
theorem vx_runSX {hh : List (Nat × Nat × Nat × Nat)} (S : CallFix p m c cc nL s args Ts own) (hM : vx_Met l y ws rm Pc Qc XC mc ms free) (cw : vx_CSW R s args own index y bytes maxL ret hh ws rm mc ms n) (hp : PreS s H Pc As)
    (hg : g.method = m) (hn : As.length = n) (hsize : g.locals.size = nL) (hstack : g.stack = As.reverse ++ rest) (hW : 2 * g.monitorRoom + (rest.map fun v => v.category).sum ≤ 8) (hdg : decode cc g.pc = .ok (.invokestatic index, 3)) (hf : cells + mc ≤ R.cells ∧ slots + ms ≤ R.slots) :
    vx_Run p l e R s m args below meth c H locs cells slots mc ms g rest (Qc As.toArray) XC free := by
  obtain ⟨⟨hrc, hrs, hfr, hlo, hws, hcw⟩, hcode, hini, hy, hlen, hl, hstt⟩ := cw
  have hK : vx_Back l R p e below s args y 3 8 (PreOf R mc ms Pc) (PostOf Qc mc ms free) (vx_Post XC mc ms free) := vx_backW (hh := hh) (bytes := bytes) (maxL := maxL) (ret := ret) hM hp.1 hrc hrs hfr hlo hws hcw (fun a' U hW => word_at hW (Or.inl (by first | rfl | simp [Cond.onTables, Cond.keeps, Cond.steady])) hini)
  obtain ⟨hx, hb, hml, ho, -⟩ := S
  intro T hT X
  rcases vx_callSX X hx (hh := hh) (bytes := bytes) (maxL := maxL) (ret := ret) ho hl hstt hini hcode hy hK hg (hsize.trans hml.symm) (argsL := As) (rest := rest) (fun sig h => hn.trans (hlen sig h)) hstack hW (by rw [hb]; exact hdg)
    (fun vm₁ hW₁ => ⟨hf.1, hf.2, hp.2 (T.setVm vm₁) hT hW₁⟩) with ⟨v, vm₁, ⟨U', l2, c2, s2⟩, hW₁, X', ⟨g', mk, t, L, e1, e2, hq, h1, hL, h2, h3⟩, st⟩ | ⟨q, vm₁, ⟨U', l2, c2, s2⟩, hW₁, X', ⟨g', mk, t, L, E, ce, e1, e2, hq, hce, hcv, hcl, h1, hL, h2, h3⟩, st⟩
  · dsimp only [Pt.U, Pt.locs, Pt.cells, Pt.slots] at X' e1 e2 h1 h2 h3 st
    subst h1; subst h2; subst h3
    exact Or.inl ⟨v, (T.setVm vm₁).calling g' mk As.toArray, t, U', L, hT, X', hL, e1, e2, hq, st⟩
  · dsimp only [Pt.U, Pt.locs, Pt.cells, Pt.slots] at X' e1 e2 h1 h2 h3 st hcl
    subst h1; subst h2; subst h3
    exact Or.inr ⟨q, (T.setVm vm₁).calling g' mk As.toArray, t, U', L, E, ce, hT, X', hL, e1, e2, hq, hce, hcv, vx_cls hW₁ hcl, st⟩
end
end VXH
theorem vx_ofWH {l : Launch} {y : MethodName} {ws ws' : List Cond} {rm : Room} {Pc : Array Value → State → Prop} {Qc : Array Value → State → Outcome → State → Prop} {XC : String → State → State → Prop} {mc ms : Nat} {free : Addr → Prop} {cc : ByteArray} {maxL : Nat} {ret : Option FieldType} {hh : List (Nat × Nat × Nat × Nat)}
    (hy : plainName y.cls = true) (hw : ws = Cond.codeWith y cc maxL ret hh :: ws')
    (body : ∀ p e s m args below meth c s₁, BodyLoose p l y (headSpec ws rm) cc maxL ret e s m args below meth c s₁ → c.maxLocals = maxL → Pc args s →
      W p l e (headSpec ws rm).room s m args below meth c s.heap [] 0 0 (vx_MQ below Qc XC args s mc ms free) (entryFrame m args maxL)) : vx_Met l y ws rm Pc Qc XC mc ms free := by
  refine MetFree.of_bodyS (code := cc) (maxLocals := maxL) (ret := ret) hy ?_ ?_
  · intro args s m h hn
    obtain ⟨m9, meth, c, hn9, h1, h2, h3, h4, -, h5, h6, -⟩ := Cond.codeWith_spec (atoms_spec (ws := ws) h _ (by rw [hw]; exact List.mem_cons_self))
    cases hn.symm.trans hn9
    exact ⟨meth, c, h1, h2, h3, h4, h5, h6⟩
  · intro p e s m args below meth c s₁ B hml hP _
    have hh0 : s₁.heap = s.heap := by rw [B.state]; rfl
    obtain ⟨t, a1, o, b1, b2, b3⟩ := body p e s m args below meth c s₁ B hml hP s₁ hh0 (Stand.of_body B)
    exact ⟨t, o, a1, b1, b2, b3⟩
end
section
abbrev RAs : String := "DigitChip$Assembler"
def TAs : u_T := fun k => match k with
  | 0 => ("DigitChip$Assembler", "text", "[C", true)
  | 1 => ("DigitChip$Assembler", "length", "I", false)
  | 2 => ("DigitChip$Assembler", "labels", "[I", true)
  | 3 => ("DigitChip$Assembler", "begins", "[I", true)
  | 4 => ("DigitChip$Assembler", "choice", "I", false)
  | 5 => ("DigitChip$Assembler", "words", "[I", true)
  | 6 => ("DigitChip$Assembler", "count", "I", false)
  | _ => ("DigitChip$Assembler", "ill", "I", false)
def tyAs : Nat → FieldType := fun k => match k with
  | 0 => .array .char
  | 1 => .int
  | 2 => .array .int
  | 3 => .array .int
  | 4 => .int
  | 5 => .array .int
  | 6 => .int
  | _ => .int
theorem nmAs : ∀ a, a < 8 → ∀ b, b < 8 → a ≠ b → (TAs a).2.1 ≠ (TAs b).2.1 := by decide +kernel
theorem tyAs_ok : ∀ k, k < 8 → parseFieldDescriptor (TAs k).2.2.1 = some (tyAs k) := by decide +kernel
abbrev RPr : String := "DigitChip$Processor"
def TPr : u_T := fun k => match k with
  | 0 => ("DigitChip$Processor", "memory", "[I", true)
  | 1 => ("DigitChip$Processor", "registers", "LDigitChip$Registers;", true)
  | 2 => ("DigitChip$Processor", "waiting", "LDigitChip$Waiting;", true)
  | 3 => ("DigitChip$Processor", "pointer", "I", false)
  | 4 => ("DigitChip$Processor", "status", "I", false)
  | 5 => ("DigitChip$Processor", "carry", "Z", false)
  | 6 => ("DigitChip$Processor", "place", "I", false)
  | 7 => ("DigitChip$Processor", "back", "I", false)
  | _ => ("DigitChip$Processor", "ended", "Z", false)
def tyPr : Nat → FieldType := fun k => match k with
  | 0 => .array .int
  | 1 => .object "DigitChip$Registers"
  | 2 => .object "DigitChip$Waiting"
  | 3 => .int
  | 4 => .int
  | 5 => .boolean
  | 6 => .int
  | 7 => .int
  | _ => .boolean
theorem nmPr : ∀ a, a < 9 → ∀ b, b < 9 → a ≠ b → (TPr a).2.1 ≠ (TPr b).2.1 := by decide +kernel
theorem tyPr_ok : ∀ k, k < 9 → parseFieldDescriptor (TPr k).2.2.1 = some (tyPr k) := by decide +kernel
abbrev RRe : String := "DigitChip$Registers"
def TRe : u_T := fun k => match k with
  | 0 => ("DigitChip$Registers", "numbers", "[J", true)
  | 1 => ("DigitChip$Registers", "unit", "J", false)
  | _ => ("DigitChip$Registers", "limit", "J", false)
def tyRe : Nat → FieldType := fun k => match k with
  | 0 => .array .long
  | 1 => .long
  | _ => .long
theorem nmRe : ∀ a, a < 3 → ∀ b, b < 3 → a ≠ b → (TRe a).2.1 ≠ (TRe b).2.1 := by decide +kernel
theorem tyRe_ok : ∀ k, k < 3 → parseFieldDescriptor (TRe k).2.2.1 = some (tyRe k) := by decide +kernel
abbrev RWa : String := "DigitChip$Waiting"
def TWa : u_T := fun k => match k with
  | 0 => ("DigitChip$Waiting", "row", "[I", true)
  | _ => ("DigitChip$Waiting", "count", "I", false)
def tyWa : Nat → FieldType := fun k => match k with
  | 0 => .array .int
  | _ => .int
theorem nmWa : ∀ a, a < 2 → ∀ b, b < 2 → a ≠ b → (TWa a).2.1 ≠ (TWa b).2.1 := by decide +kernel
theorem tyWa_ok : ∀ k, k < 2 → parseFieldDescriptor (TWa k).2.2.1 = some (tyWa k) := by decide +kernel
abbrev RCh : String := "DigitChip"
def TCh : u_T := fun k => match k with
  | 0 => ("DigitChip", "assembler", "LDigitChip$Assembler;", true)
  | _ => ("DigitChip", "processor", "LDigitChip$Processor;", true)
def tyCh : Nat → FieldType := fun k => match k with
  | 0 => .object "DigitChip$Assembler"
  | _ => .object "DigitChip$Processor"
theorem nmCh : ∀ a, a < 2 → ∀ b, b < 2 → a ≠ b → (TCh a).2.1 ≠ (TCh b).2.1 := by decide +kernel
theorem tyCh_ok : ∀ k, k < 2 → parseFieldDescriptor (TCh k).2.2.1 = some (tyCh k) := by decide +kernel
abbrev RMo : String := "DigitChipModel"
def TMo : u_T := fun k => match k with
  | 0 => ("DigitChipModel", "code", "I", false)
  | 1 => ("DigitChipModel", "powers", "[J", true)
  | 2 => ("DigitChipModel", "registers", "[J", true)
  | 3 => ("DigitChipModel", "pointer", "I", false)
  | 4 => ("DigitChipModel", "status", "I", false)
  | 5 => ("DigitChipModel", "carry", "Z", false)
  | 6 => ("DigitChipModel", "place", "I", false)
  | 7 => ("DigitChipModel", "back", "I", false)
  | 8 => ("DigitChipModel", "words", "[I", true)
  | 9 => ("DigitChipModel", "keys", "I", false)
  | 10 => ("DigitChipModel", "pressed", "[I", true)
  | 11 => ("DigitChipModel", "ended", "Z", false)
  | 12 => ("DigitChipModel", "low", "J", false)
  | 13 => ("DigitChipModel", "wide", "J", false)
  | 14 => ("DigitChipModel", "size", "I", false)
  | 15 => ("DigitChipModel", "text", "[C", true)
  | 16 => ("DigitChipModel", "illAt", "I", false)
  | 17 => ("DigitChipModel", "count", "I", false)
  | 18 => ("DigitChipModel", "made", "[I", true)
  | 19 => ("DigitChipModel", "labels", "[I", true)
  | _ => ("DigitChipModel", "wanted", "[I", true)
def tyMo : Nat → FieldType := fun k => match k with
  | 0 => .int
  | 1 => .array .long
  | 2 => .array .long
  | 3 => .int
  | 4 => .int
  | 5 => .boolean
  | 6 => .int
  | 7 => .int
  | 8 => .array .int
  | 9 => .int
  | 10 => .array .int
  | 11 => .boolean
  | 12 => .long
  | 13 => .long
  | 14 => .int
  | 15 => .array .char
  | 16 => .int
  | 17 => .int
  | 18 => .array .int
  | 19 => .array .int
  | _ => .array .int
theorem nmMo : ∀ a, a < 21 → ∀ b, b < 21 → a ≠ b → (TMo a).2.1 ≠ (TMo b).2.1 := by decide +kernel
theorem tyMo_ok : ∀ k, k < 21 → parseFieldDescriptor (TMo k).2.2.1 = some (tyMo k) := by decide +kernel
abbrev RLa : String := "DigitChipLaw"
abbrev vCl : List vw_C := [(RAs, TAs, 8), (RPr, TPr, 9), (RRe, TRe, 3), (RWa, TWa, 2), (RCh, TCh, 2), (RMo, TMo, 21)]
abbrev c_Ch_init : ByteArray := prog_1_method_1_code
abbrev y_Ch_init : MethodName := ⟨"DigitChip", "<init>", "()V"⟩
abbrev c_As_init : ByteArray := prog_2_method_1_code
abbrev y_As_init : MethodName := ⟨"DigitChip$Assembler", "<init>", "()V"⟩
abbrev c_St_length : ByteArray := prog_13_method_54_code
abbrev y_St_length : MethodName := ⟨"java/lang/String", "length", "()I"⟩
abbrev c_St_coder : ByteArray := prog_13_method_152_code
abbrev y_St_coder : MethodName := ⟨"java/lang/String", "coder", "()B"⟩
abbrev c_Pr_init : ByteArray := prog_3_method_1_code
abbrev y_Pr_init : MethodName := ⟨"DigitChip$Processor", "<init>", "()V"⟩
abbrev c_Re_init : ByteArray := prog_4_method_1_code
abbrev y_Re_init : MethodName := ⟨"DigitChip$Registers", "<init>", "()V"⟩
abbrev c_Wa_init : ByteArray := prog_5_method_1_code
abbrev y_Wa_init : MethodName := ⟨"DigitChip$Waiting", "<init>", "()V"⟩
abbrev c_Ch_type : ByteArray := prog_1_method_2_code
abbrev y_Ch_type : MethodName := ⟨"DigitChip", "type", "(C)Z"⟩
abbrev c_As_append : ByteArray := prog_2_method_2_code
abbrev y_As_append : MethodName := ⟨"DigitChip$Assembler", "append", "(C)Z"⟩
abbrev c_Ch_illAt : ByteArray := prog_1_method_4_code
abbrev y_Ch_illAt : MethodName := ⟨"DigitChip", "illAt", "()I"⟩
abbrev c_Ch_word : ByteArray := prog_1_method_5_code
abbrev y_Ch_word : MethodName := ⟨"DigitChip", "word", "(I)I"⟩
abbrev c_Ch_isPlace : ByteArray := prog_1_method_15_code
abbrev y_Ch_isPlace : MethodName := ⟨"DigitChip", "isPlace", "(I)Z"⟩
abbrev c_Ch_poke : ByteArray := prog_1_method_6_code
abbrev y_Ch_poke : MethodName := ⟨"DigitChip", "poke", "(II)Z"⟩
abbrev c_Ch_key : ByteArray := prog_1_method_7_code
abbrev y_Ch_key : MethodName := ⟨"DigitChip", "key", "(I)Z"⟩
abbrev c_Wa_append : ByteArray := prog_5_method_2_code
abbrev y_Wa_append : MethodName := ⟨"DigitChip$Waiting", "append", "(I)Z"⟩
abbrev c_Ch_keys : ByteArray := prog_1_method_8_code
abbrev y_Ch_keys : MethodName := ⟨"DigitChip", "keys", "()I"⟩
abbrev c_Ch_value : ByteArray := prog_1_method_10_code
abbrev y_Ch_value : MethodName := ⟨"DigitChip", "value", "(I)J"⟩
abbrev c_Ch_isRegister : ByteArray := prog_1_method_16_code
abbrev y_Ch_isRegister : MethodName := ⟨"DigitChip", "isRegister", "(I)Z"⟩
abbrev c_Ch_set : ByteArray := prog_1_method_11_code
abbrev y_Ch_set : MethodName := ⟨"DigitChip", "set", "(IJ)Z"⟩
abbrev c_Ch_state : ByteArray := prog_1_method_12_code
abbrev y_Ch_state : MethodName := ⟨"DigitChip", "state", "(I)I"⟩
abbrev c_Ch_go : ByteArray := prog_1_method_13_code
abbrev y_Ch_go : MethodName := ⟨"DigitChip", "go", "(I)Z"⟩
abbrev c_Ch_display : ByteArray := prog_1_method_14_code
abbrev y_Ch_display : MethodName := ⟨"DigitChip", "display", "(I)I"⟩
abbrev c_Ch_digitBeforePoint : ByteArray := prog_1_method_18_code
abbrev y_Ch_digitBeforePoint : MethodName := ⟨"DigitChip", "digitBeforePoint", "()I"⟩
abbrev c_Re_digit : ByteArray := prog_4_method_2_code
abbrev y_Re_digit : MethodName := ⟨"DigitChip$Registers", "digit", "(II)I"⟩
abbrev c_Ch_codeOfDigit : ByteArray := prog_1_method_17_code
abbrev y_Ch_codeOfDigit : MethodName := ⟨"DigitChip", "codeOfDigit", "(I)I"⟩
abbrev c_La_assemble : ByteArray := method_3_code
abbrev y_La_assemble : MethodName := ⟨"DigitChipLaw", "assemble", "(LDigitChip;[J)I"⟩
abbrev c_Ch_assemble : ByteArray := prog_1_method_3_code
abbrev y_Ch_assemble : MethodName := ⟨"DigitChip", "assemble", "()I"⟩
abbrev c_As_takeText : ByteArray := prog_2_method_3_code
abbrev y_As_takeText : MethodName := ⟨"DigitChip$Assembler", "takeText", "()Z"⟩
abbrev c_Ar_fill : ByteArray := prog_17_method_103_code
abbrev y_Ar_fill : MethodName := ⟨"java/util/Arrays", "fill", "([II)V"⟩
abbrev c_As_beginsName : ByteArray := prog_2_method_4_code
abbrev y_As_beginsName : MethodName := ⟨"DigitChip$Assembler", "beginsName", "(I)Z"⟩
abbrev c_As_endOfName : ByteArray := prog_2_method_5_code
abbrev y_As_endOfName : MethodName := ⟨"DigitChip$Assembler", "endOfName", "(I)I"⟩
abbrev c_As_takeName : ByteArray := prog_2_method_6_code
abbrev y_As_takeName : MethodName := ⟨"DigitChip$Assembler", "takeName", "(II)Z"⟩
abbrev c_As_findName : ByteArray := prog_2_method_9_code
abbrev y_As_findName : MethodName := ⟨"DigitChip$Assembler", "findName", "(Ljava/lang/String;II)I"⟩
abbrev c_St_charAt : ByteArray := prog_13_method_56_code
abbrev y_St_charAt : MethodName := ⟨"java/lang/String", "charAt", "(I)C"⟩
abbrev c_St_isLatin1 : ByteArray := prog_13_method_154_code
abbrev y_St_isLatin1 : MethodName := ⟨"java/lang/String", "isLatin1", "()Z"⟩
abbrev c_SL_charAt : ByteArray := prog_14_method_2_code
abbrev y_SL_charAt : MethodName := ⟨"java/lang/StringLatin1", "charAt", "([BI)C"⟩
abbrev c_St_checkIndex : ByteArray := prog_13_method_155_code
abbrev y_St_checkIndex : MethodName := ⟨"java/lang/String", "checkIndex", "(II)V"⟩
abbrev c_Pc_checkIndex : ByteArray := prog_18_method_11_code
abbrev y_Pc_checkIndex : MethodName := ⟨"jdk/internal/util/Preconditions", "checkIndex", "(IILjava/util/function/BiFunction;)I"⟩
abbrev c_SU_charAt : ByteArray := prog_15_method_83_code
abbrev y_SU_charAt : MethodName := ⟨"java/lang/StringUTF16", "charAt", "([BI)C"⟩
abbrev c_SU_checkIndex : ByteArray := prog_15_method_91_code
abbrev y_SU_checkIndex : MethodName := ⟨"java/lang/StringUTF16", "checkIndex", "(I[B)V"⟩
abbrev c_SU_length : ByteArray := prog_15_method_6_code
abbrev y_SU_length : MethodName := ⟨"java/lang/StringUTF16", "length", "([B)I"⟩
abbrev c_SU_getChar : ByteArray := prog_15_method_5_code
abbrev y_SU_getChar : MethodName := ⟨"java/lang/StringUTF16", "getChar", "([BI)C"⟩
abbrev c_As_isName : ByteArray := prog_2_method_10_code
abbrev y_As_isName : MethodName := ⟨"DigitChip$Assembler", "isName", "(Ljava/lang/String;III)Z"⟩
abbrev c_St_indexOf0 : ByteArray := prog_13_method_79_code
abbrev y_St_indexOf0 : MethodName := ⟨"java/lang/String", "indexOf", "(I)I"⟩
abbrev c_St_indexOf1 : ByteArray := prog_13_method_80_code
abbrev y_St_indexOf1 : MethodName := ⟨"java/lang/String", "indexOf", "(II)I"⟩
abbrev c_SL_indexOf : ByteArray := prog_14_method_22_code
abbrev y_SL_indexOf : MethodName := ⟨"java/lang/StringLatin1", "indexOf", "([BIII)I"⟩
abbrev c_SL_canEncode : ByteArray := prog_14_method_4_code
abbrev y_SL_canEncode : MethodName := ⟨"java/lang/StringLatin1", "canEncode", "(I)Z"⟩
abbrev c_Ma_max : ByteArray := prog_11_method_65_code
abbrev y_Ma_max : MethodName := ⟨"java/lang/Math", "max", "(II)I"⟩
abbrev c_Ma_min : ByteArray := prog_11_method_69_code
abbrev y_Ma_min : MethodName := ⟨"java/lang/Math", "min", "(II)I"⟩
abbrev c_SL_indexOfChar : ByteArray := prog_14_method_23_code
abbrev y_SL_indexOfChar : MethodName := ⟨"java/lang/StringLatin1", "indexOfChar", "([BIII)I"⟩
abbrev c_SU_indexOf : ByteArray := prog_15_method_40_code
abbrev y_SU_indexOf : MethodName := ⟨"java/lang/StringUTF16", "indexOf", "([BIII)I"⟩
abbrev c_SU_indexOfChar : ByteArray := prog_15_method_47_code
abbrev y_SU_indexOfChar : MethodName := ⟨"java/lang/StringUTF16", "indexOfChar", "([BIII)I"⟩
abbrev c_SU_checkBoundsBeginEnd : ByteArray := prog_15_method_93_code
abbrev y_SU_checkBoundsBeginEnd : MethodName := ⟨"java/lang/StringUTF16", "checkBoundsBeginEnd", "(II[B)V"⟩
abbrev c_St_checkBoundsBeginEnd : ByteArray := prog_13_method_158_code
abbrev y_St_checkBoundsBeginEnd : MethodName := ⟨"java/lang/String", "checkBoundsBeginEnd", "(III)V"⟩
abbrev c_Pc_checkFromToIndex : ByteArray := prog_18_method_12_code
abbrev y_Pc_checkFromToIndex : MethodName := ⟨"jdk/internal/util/Preconditions", "checkFromToIndex", "(IIILjava/util/function/BiFunction;)I"⟩
abbrev c_SU_indexOfCharUnsafe : ByteArray := prog_15_method_48_code
abbrev y_SU_indexOfCharUnsafe : MethodName := ⟨"java/lang/StringUTF16", "indexOfCharUnsafe", "([BIII)I"⟩
abbrev c_SU_indexOfSupplementary : ByteArray := prog_15_method_49_code
abbrev y_SU_indexOfSupplementary : MethodName := ⟨"java/lang/StringUTF16", "indexOfSupplementary", "([BIII)I"⟩
abbrev c_Cc_isValidCodePoint : ByteArray := prog_8_method_11_code
abbrev y_Cc_isValidCodePoint : MethodName := ⟨"java/lang/Character", "isValidCodePoint", "(I)Z"⟩
abbrev c_Cc_highSurrogate : ByteArray := prog_8_method_28_code
abbrev y_Cc_highSurrogate : MethodName := ⟨"java/lang/Character", "highSurrogate", "(I)C"⟩
abbrev c_Cc_lowSurrogate : ByteArray := prog_8_method_29_code
abbrev y_Cc_lowSurrogate : MethodName := ⟨"java/lang/Character", "lowSurrogate", "(I)C"⟩
abbrev c_As_takeLabel : ByteArray := prog_2_method_7_code
abbrev y_As_takeLabel : MethodName := ⟨"DigitChip$Assembler", "takeLabel", "(I)Z"⟩
abbrev c_As_wordOfName : ByteArray := prog_2_method_8_code
abbrev y_As_wordOfName : MethodName := ⟨"DigitChip$Assembler", "wordOfName", "(II)I"⟩
abbrev c_As_fillInLabels : ByteArray := prog_2_method_11_code
abbrev y_As_fillInLabels : MethodName := ⟨"DigitChip$Assembler", "fillInLabels", "()V"⟩
abbrev c_Th_init : ByteArray := prog_16_method_1_code
abbrev y_Th_init : MethodName := ⟨"java/lang/Throwable", "<init>", "()V"⟩
abbrev c_Ia_init : ByteArray := prog_10_method_1_code
abbrev y_Ia_init : MethodName := ⟨"java/lang/IllegalArgumentException", "<init>", "()V"⟩
abbrev c_Rx_init : ByteArray := prog_12_method_1_code
abbrev y_Rx_init : MethodName := ⟨"java/lang/RuntimeException", "<init>", "()V"⟩
abbrev c_Ex_init : ByteArray := prog_9_method_1_code
abbrev y_Ex_init : MethodName := ⟨"java/lang/Exception", "<init>", "()V"⟩
abbrev c_Pr_load : ByteArray := prog_3_method_2_code
abbrev y_Pr_load : MethodName := ⟨"DigitChip$Processor", "load", "([II)V"⟩
abbrev c_La_run : ByteArray := method_4_code
abbrev y_La_run : MethodName := ⟨"DigitChipLaw", "run", "(LDigitChip;I[J)I"⟩
abbrev c_Ch_run : ByteArray := prog_1_method_9_code
abbrev y_Ch_run : MethodName := ⟨"DigitChip", "run", "(I)I"⟩
abbrev c_Pr_doWords : ByteArray := prog_3_method_3_code
abbrev y_Pr_doWords : MethodName := ⟨"DigitChip$Processor", "doWords", "(I)I"⟩
abbrev c_Pr_doWord : ByteArray := prog_3_method_4_code
abbrev y_Pr_doWord : MethodName := ⟨"DigitChip$Processor", "doWord", "(I)V"⟩
abbrev c_Pr_doPlain : ByteArray := prog_3_method_5_code
abbrev y_Pr_doPlain : MethodName := ⟨"DigitChip$Processor", "doPlain", "(II)V"⟩
abbrev c_Pr_setStatus : ByteArray := prog_3_method_6_code
abbrev y_Pr_setStatus : MethodName := ⟨"DigitChip$Processor", "setStatus", "(I)V"⟩
abbrev c_Pr_clearStatus : ByteArray := prog_3_method_7_code
abbrev y_Pr_clearStatus : MethodName := ⟨"DigitChip$Processor", "clearStatus", "(I)V"⟩
abbrev c_Pr_hasStatus : ByteArray := prog_3_method_8_code
abbrev y_Pr_hasStatus : MethodName := ⟨"DigitChip$Processor", "hasStatus", "(I)Z"⟩
abbrev c_Pr_putDigit : ByteArray := prog_3_method_9_code
abbrev y_Pr_putDigit : MethodName := ⟨"DigitChip$Processor", "putDigit", "(I)V"⟩
abbrev c_Re_chooseField : ByteArray := prog_4_method_3_code
abbrev y_Re_chooseField : MethodName := ⟨"DigitChip$Registers", "chooseField", "(II)V"⟩
abbrev c_Re_chooseDigits : ByteArray := prog_4_method_4_code
abbrev y_Re_chooseDigits : MethodName := ⟨"DigitChip$Registers", "chooseDigits", "(II)V"⟩
abbrev c_Re_putPart : ByteArray := prog_4_method_6_code
abbrev y_Re_putPart : MethodName := ⟨"DigitChip$Registers", "putPart", "(IJ)V"⟩
abbrev c_Re_part : ByteArray := prog_4_method_5_code
abbrev y_Re_part : MethodName := ⟨"DigitChip$Registers", "part", "(I)J"⟩
abbrev c_Pr_lowerPointer : ByteArray := prog_3_method_10_code
abbrev y_Pr_lowerPointer : MethodName := ⟨"DigitChip$Processor", "lowerPointer", "()V"⟩
abbrev c_Pr_push : ByteArray := prog_3_method_12_code
abbrev y_Pr_push : MethodName := ⟨"DigitChip$Processor", "push", "()V"⟩
abbrev c_Pr_copy : ByteArray := prog_3_method_11_code
abbrev y_Pr_copy : MethodName := ⟨"DigitChip$Processor", "copy", "(II)V"⟩
abbrev c_Pr_lowerStack : ByteArray := prog_3_method_13_code
abbrev y_Pr_lowerStack : MethodName := ⟨"DigitChip$Processor", "lowerStack", "()V"⟩
abbrev c_Pr_takeKey : ByteArray := prog_3_method_14_code
abbrev y_Pr_takeKey : MethodName := ⟨"DigitChip$Processor", "takeKey", "()V"⟩
abbrev c_Wa_takeFirst : ByteArray := prog_5_method_3_code
abbrev y_Wa_takeFirst : MethodName := ⟨"DigitChip$Waiting", "takeFirst", "()I"⟩
abbrev c_Pr_exchangeMemory : ByteArray := prog_3_method_15_code
abbrev y_Pr_exchangeMemory : MethodName := ⟨"DigitChip$Processor", "exchangeMemory", "()V"⟩
abbrev c_Pr_doFieldWork : ByteArray := prog_3_method_16_code
abbrev y_Pr_doFieldWork : MethodName := ⟨"DigitChip$Processor", "doFieldWork", "(IJJJ)V"⟩
abbrev c_Pr_putResult : ByteArray := prog_3_method_17_code
abbrev y_Pr_putResult : MethodName := ⟨"DigitChip$Processor", "putResult", "(IJ)V"⟩
abbrev c_Ma_floorMod : ByteArray := prog_11_method_52_code
abbrev y_Ma_floorMod : MethodName := ⟨"java/lang/Math", "floorMod", "(JJ)J"⟩
abbrev c_Mo_init : ByteArray := prog_7_method_1_code
abbrev y_Mo_init : MethodName := ⟨"DigitChipModel", "<init>", "()V"⟩
abbrev c_Mo_thrown : ByteArray := prog_7_method_2_code
abbrev y_Mo_thrown : MethodName := ⟨"DigitChipModel", "thrown", "()I"⟩
abbrev c_Mo_run : ByteArray := prog_7_method_14_code
abbrev y_Mo_run : MethodName := ⟨"DigitChipModel", "run", "(I)I"⟩
abbrev c_Mo_step : ByteArray := prog_7_method_13_code
abbrev y_Mo_step : MethodName := ⟨"DigitChipModel", "step", "()V"⟩
abbrev c_Mo_field : ByteArray := prog_7_method_3_code
abbrev y_Mo_field : MethodName := ⟨"DigitChipModel", "field", "(I)V"⟩
abbrev c_Mo_move : ByteArray := prog_7_method_8_code
abbrev y_Mo_move : MethodName := ⟨"DigitChipModel", "move", "(I)V"⟩
abbrev c_Mo_write : ByteArray := prog_7_method_5_code
abbrev y_Mo_write : MethodName := ⟨"DigitChipModel", "write", "(IJ)V"⟩
abbrev c_Mo_part : ByteArray := prog_7_method_4_code
abbrev y_Mo_part : MethodName := ⟨"DigitChipModel", "part", "(I)J"⟩
abbrev c_Mo_change : ByteArray := prog_7_method_7_code
abbrev y_Mo_change : MethodName := ⟨"DigitChipModel", "change", "(II)V"⟩
abbrev c_Mo_reckon : ByteArray := prog_7_method_9_code
abbrev y_Mo_reckon : MethodName := ⟨"DigitChipModel", "reckon", "(I)V"⟩
abbrev c_Mo_become : ByteArray := prog_7_method_6_code
abbrev y_Mo_become : MethodName := ⟨"DigitChipModel", "become", "(IJ)V"⟩
abbrev c_Mo_mark : ByteArray := prog_7_method_10_code
abbrev y_Mo_mark : MethodName := ⟨"DigitChipModel", "mark", "(II)V"⟩
abbrev c_Mo_turn : ByteArray := prog_7_method_11_code
abbrev y_Mo_turn : MethodName := ⟨"DigitChipModel", "turn", "(II)V"⟩
abbrev c_Mo_pick : ByteArray := prog_7_method_12_code
abbrev y_Mo_pick : MethodName := ⟨"DigitChipModel", "pick", "(I)V"⟩
abbrev c_Mo_type : ByteArray := prog_7_method_24_code
abbrev y_Mo_type : MethodName := ⟨"DigitChipModel", "type", "(C)Z"⟩
abbrev c_Mo_assemble : ByteArray := prog_7_method_25_code
abbrev y_Mo_assemble : MethodName := ⟨"DigitChipModel", "assemble", "()I"⟩
abbrev c_Mo_read : ByteArray := prog_7_method_23_code
abbrev y_Mo_read : MethodName := ⟨"DigitChipModel", "read", "()I"⟩
abbrev c_Mo_take : ByteArray := prog_7_method_22_code
abbrev y_Mo_take : MethodName := ⟨"DigitChipModel", "take", "(II)Z"⟩
abbrev c_Mo_wordOf : ByteArray := prog_7_method_21_code
abbrev y_Mo_wordOf : MethodName := ⟨"DigitChipModel", "wordOf", "(II)I"⟩
abbrev c_Mo_numberAt : ByteArray := prog_7_method_17_code
abbrev y_Mo_numberAt : MethodName := ⟨"DigitChipModel", "numberAt", "(I)I"⟩
abbrev c_Mo_name : ByteArray := prog_7_method_19_code
abbrev y_Mo_name : MethodName := ⟨"DigitChipModel", "name", "(III)J"⟩
abbrev c_Mo_control : ByteArray := prog_7_method_15_code
abbrev y_Mo_control : MethodName := ⟨"DigitChipModel", "control", "(I)J"⟩
abbrev c_Mo_digit : ByteArray := prog_7_method_18_code
abbrev y_Mo_digit : MethodName := ⟨"DigitChipModel", "digit", "(C)I"⟩
abbrev c_Mo_fieldOf : ByteArray := prog_7_method_20_code
abbrev y_Mo_fieldOf : MethodName := ⟨"DigitChipModel", "fieldOf", "(C)I"⟩
abbrev c_Mo_sum : ByteArray := prog_7_method_16_code
abbrev y_Mo_sum : MethodName := ⟨"DigitChipModel", "sum", "(I)J"⟩
abbrev c_Mo_illAt : ByteArray := prog_7_method_26_code
abbrev y_Mo_illAt : MethodName := ⟨"DigitChipModel", "illAt", "()I"⟩
abbrev c_Mo_word : ByteArray := prog_7_method_27_code
abbrev y_Mo_word : MethodName := ⟨"DigitChipModel", "word", "(I)I"⟩
abbrev c_Mo_poke : ByteArray := prog_7_method_28_code
abbrev y_Mo_poke : MethodName := ⟨"DigitChipModel", "poke", "(II)Z"⟩
abbrev c_Mo_key : ByteArray := prog_7_method_29_code
abbrev y_Mo_key : MethodName := ⟨"DigitChipModel", "key", "(I)Z"⟩
abbrev c_Mo_keys : ByteArray := prog_7_method_30_code
abbrev y_Mo_keys : MethodName := ⟨"DigitChipModel", "keys", "()I"⟩
abbrev c_Mo_value : ByteArray := prog_7_method_31_code
abbrev y_Mo_value : MethodName := ⟨"DigitChipModel", "value", "(I)J"⟩
abbrev c_Mo_set : ByteArray := prog_7_method_32_code
abbrev y_Mo_set : MethodName := ⟨"DigitChipModel", "set", "(IJ)Z"⟩
abbrev c_Mo_state : ByteArray := prog_7_method_33_code
abbrev y_Mo_state : MethodName := ⟨"DigitChipModel", "state", "(I)I"⟩
abbrev c_Mo_go : ByteArray := prog_7_method_34_code
abbrev y_Mo_go : MethodName := ⟨"DigitChipModel", "go", "(I)Z"⟩
abbrev c_Mo_display : ByteArray := prog_7_method_36_code
abbrev y_Mo_display : MethodName := ⟨"DigitChipModel", "display", "(I)I"⟩
abbrev c_Mo_digitOf : ByteArray := prog_7_method_35_code
abbrev y_Mo_digitOf : MethodName := ⟨"DigitChipModel", "digitOf", "(II)I"⟩
def zT : List Cond := lw_tbl.filter goodWord
theorem zT_in {w : Cond} (h : w ∈ lw_tbl) (g : goodWord w = true) : w ∈ zT := List.mem_filter.mpr ⟨h, g⟩
theorem zT_tb {w : Cond} (h : w ∈ tables_1) : w ∈ lw_tbl := List.mem_append_right (k2_sels lw_privs) h
theorem zT_pv {w : Cond} (h : w ∈ k2_sels lw_privs) : w ∈ lw_tbl := List.mem_append_left tables_1 h
theorem b0 : (Jvm.Cond.initialized "DigitChipLaw") ∈ lw_tbl := zT_tb (List.mem_append_left (tables_1_2 ++ (tables_1_3 ++ tables_1_4)) (List.mem_of_getElem? (i := 0) rfl))
theorem q0 : (Jvm.Cond.initialized "DigitChipLaw") ∈ zT := zT_in b0 rfl
theorem b1 : (Jvm.Cond.initialized "DigitChip") ∈ lw_tbl := zT_tb (List.mem_append_left (tables_1_2 ++ (tables_1_3 ++ tables_1_4)) (List.mem_of_getElem? (i := 1) rfl))
theorem q1 : (Jvm.Cond.initialized "DigitChip") ∈ zT := zT_in b1 rfl
theorem b2 : (Jvm.Cond.initialized "DigitChip$Assembler") ∈ lw_tbl := zT_tb (List.mem_append_left (tables_1_2 ++ (tables_1_3 ++ tables_1_4)) (List.mem_of_getElem? (i := 2) rfl))
theorem q2 : (Jvm.Cond.initialized "DigitChip$Assembler") ∈ zT := zT_in b2 rfl
theorem b3 : (Jvm.Cond.initialized "java/lang/String") ∈ lw_tbl := zT_tb (List.mem_append_left (tables_1_2 ++ (tables_1_3 ++ tables_1_4)) (List.mem_of_getElem? (i := 3) rfl))
theorem q3 : (Jvm.Cond.initialized "java/lang/String") ∈ zT := zT_in b3 rfl
theorem b4 : (Jvm.Cond.initialized "DigitChip$Processor") ∈ lw_tbl := zT_tb (List.mem_append_left (tables_1_2 ++ (tables_1_3 ++ tables_1_4)) (List.mem_of_getElem? (i := 4) rfl))
theorem q4 : (Jvm.Cond.initialized "DigitChip$Processor") ∈ zT := zT_in b4 rfl
theorem b5 : (Jvm.Cond.initialized "DigitChip$Registers") ∈ lw_tbl := zT_tb (List.mem_append_left (tables_1_2 ++ (tables_1_3 ++ tables_1_4)) (List.mem_of_getElem? (i := 5) rfl))
theorem q5 : (Jvm.Cond.initialized "DigitChip$Registers") ∈ zT := zT_in b5 rfl
theorem b6 : (Jvm.Cond.initialized "DigitChip$Waiting") ∈ lw_tbl := zT_tb (List.mem_append_left (tables_1_2 ++ (tables_1_3 ++ tables_1_4)) (List.mem_of_getElem? (i := 6) rfl))
theorem q6 : (Jvm.Cond.initialized "DigitChip$Waiting") ∈ zT := zT_in b6 rfl
theorem b7 : (Jvm.Cond.initialized "DigitChipModel") ∈ lw_tbl := zT_tb (List.mem_append_left (tables_1_2 ++ (tables_1_3 ++ tables_1_4)) (List.mem_of_getElem? (i := 7) rfl))
theorem q7 : (Jvm.Cond.initialized "DigitChipModel") ∈ zT := zT_in b7 rfl
theorem b8 : (Jvm.Cond.initialized "java/util/Arrays") ∈ lw_tbl := zT_tb (List.mem_append_left (tables_1_2 ++ (tables_1_3 ++ tables_1_4)) (List.mem_of_getElem? (i := 8) rfl))
theorem q8 : (Jvm.Cond.initialized "java/util/Arrays") ∈ zT := zT_in b8 rfl
theorem b9 : (Jvm.Cond.initialized "java/lang/StringLatin1") ∈ lw_tbl := zT_tb (List.mem_append_left (tables_1_2 ++ (tables_1_3 ++ tables_1_4)) (List.mem_of_getElem? (i := 9) rfl))
theorem q9 : (Jvm.Cond.initialized "java/lang/StringLatin1") ∈ zT := zT_in b9 rfl
theorem b10 : (Jvm.Cond.initialized "jdk/internal/util/Preconditions") ∈ lw_tbl := zT_tb (List.mem_append_left (tables_1_2 ++ (tables_1_3 ++ tables_1_4)) (List.mem_of_getElem? (i := 10) rfl))
theorem q10 : (Jvm.Cond.initialized "jdk/internal/util/Preconditions") ∈ zT := zT_in b10 rfl
theorem b11 : (Jvm.Cond.initialized "java/lang/StringUTF16") ∈ lw_tbl := zT_tb (List.mem_append_left (tables_1_2 ++ (tables_1_3 ++ tables_1_4)) (List.mem_of_getElem? (i := 11) rfl))
theorem q11 : (Jvm.Cond.initialized "java/lang/StringUTF16") ∈ zT := zT_in b11 rfl
theorem b12 : (Jvm.Cond.initialized "java/lang/Math") ∈ lw_tbl := zT_tb (List.mem_append_left (tables_1_2 ++ (tables_1_3 ++ tables_1_4)) (List.mem_of_getElem? (i := 12) rfl))
theorem q12 : (Jvm.Cond.initialized "java/lang/Math") ∈ zT := zT_in b12 rfl
theorem b13 : (Jvm.Cond.initialized "java/lang/Character") ∈ lw_tbl := zT_tb (List.mem_append_left (tables_1_2 ++ (tables_1_3 ++ tables_1_4)) (List.mem_of_getElem? (i := 13) rfl))
theorem q13 : (Jvm.Cond.initialized "java/lang/Character") ∈ zT := zT_in b13 rfl
theorem b14 : (Jvm.Cond.initialized "java/lang/Throwable") ∈ lw_tbl := zT_tb (List.mem_append_left (tables_1_2 ++ (tables_1_3 ++ tables_1_4)) (List.mem_of_getElem? (i := 14) rfl))
theorem q14 : (Jvm.Cond.initialized "java/lang/Throwable") ∈ zT := zT_in b14 rfl
theorem b15 : (Jvm.Cond.initialized "java/lang/Exception") ∈ lw_tbl := zT_tb (List.mem_append_left (tables_1_2 ++ (tables_1_3 ++ tables_1_4)) (List.mem_of_getElem? (i := 15) rfl))
theorem q15 : (Jvm.Cond.initialized "java/lang/Exception") ∈ zT := zT_in b15 rfl
theorem b16 : (Jvm.Cond.initialized "java/lang/RuntimeException") ∈ lw_tbl := zT_tb (List.mem_append_left (tables_1_2 ++ (tables_1_3 ++ tables_1_4)) (List.mem_of_getElem? (i := 16) rfl))
theorem q16 : (Jvm.Cond.initialized "java/lang/RuntimeException") ∈ zT := zT_in b16 rfl
theorem b17 : (Jvm.Cond.initialized "java/lang/IllegalArgumentException") ∈ lw_tbl := zT_tb (List.mem_append_left (tables_1_2 ++ (tables_1_3 ++ tables_1_4)) (List.mem_of_getElem? (i := 17) rfl))
theorem q17 : (Jvm.Cond.initialized "java/lang/IllegalArgumentException") ∈ zT := zT_in b17 rfl
theorem b18 : (Jvm.Cond.classLink "DigitChipLaw" (8 : Nat) "DigitChip") ∈ lw_tbl := zT_tb (List.mem_append_left (tables_1_2 ++ (tables_1_3 ++ tables_1_4)) (List.mem_of_getElem? (i := 18) rfl))
theorem q18 : (Jvm.Cond.classLink "DigitChipLaw" (8 : Nat) "DigitChip") ∈ zT := zT_in b18 rfl
theorem b19 : (Jvm.Cond.instantiable "DigitChip" (2 : Nat)) ∈ lw_tbl := zT_tb (List.mem_append_left (tables_1_2 ++ (tables_1_3 ++ tables_1_4)) (List.mem_of_getElem? (i := 19) rfl))
theorem q19 : (Jvm.Cond.instantiable "DigitChip" (2 : Nat)) ∈ zT := zT_in b19 rfl
theorem b20 : (Jvm.Cond.methodLink "DigitChipLaw" (19 : Nat) ({ cls := "DigitChip", name := "<init>", desc := "()V" } : Jvm.MethodName)) ∈ lw_tbl := zT_tb (List.mem_append_left (tables_1_2 ++ (tables_1_3 ++ tables_1_4)) (List.mem_of_getElem? (i := 20) rfl))
theorem q20 : (Jvm.Cond.methodLink "DigitChipLaw" (19 : Nat) ({ cls := "DigitChip", name := "<init>", desc := "()V" } : Jvm.MethodName)) ∈ zT := zT_in b20 rfl
theorem b21 : (Jvm.Cond.instanceMethod ({ cls := "DigitChip", name := "<init>", desc := "()V" } : Jvm.MethodName)) ∈ lw_tbl := zT_tb (List.mem_append_left (tables_1_2 ++ (tables_1_3 ++ tables_1_4)) (List.mem_of_getElem? (i := 21) rfl))
theorem q21 : (Jvm.Cond.instanceMethod ({ cls := "DigitChip", name := "<init>", desc := "()V" } : Jvm.MethodName)) ∈ zT := zT_in b21 rfl
theorem b22 : (Jvm.Cond.code ({ cls := "DigitChip", name := "<init>", desc := "()V" } : Jvm.MethodName) prog_1_method_1_code (1 : Nat) (Option.none : Option Jvm.ClassFile.FieldType)) ∈ lw_tbl := zT_tb (List.mem_append_left (tables_1_2 ++ (tables_1_3 ++ tables_1_4)) (List.mem_of_getElem? (i := 22) rfl))
theorem q22 : (Jvm.Cond.code ({ cls := "DigitChip", name := "<init>", desc := "()V" } : Jvm.MethodName) prog_1_method_1_code (1 : Nat) (Option.none : Option Jvm.ClassFile.FieldType)) ∈ zT := zT_in b22 rfl
theorem b23 : (Jvm.Cond.methodLink "DigitChip" (1 : Nat) ({ cls := "java/lang/Object", name := "<init>", desc := "()V" } : Jvm.MethodName)) ∈ lw_tbl := zT_tb (List.mem_append_left (tables_1_2 ++ (tables_1_3 ++ tables_1_4)) (List.mem_of_getElem? (i := 23) rfl))
theorem q23 : (Jvm.Cond.methodLink "DigitChip" (1 : Nat) ({ cls := "java/lang/Object", name := "<init>", desc := "()V" } : Jvm.MethodName)) ∈ zT := zT_in b23 rfl
theorem b24 : (Jvm.Cond.instanceMethod ({ cls := "java/lang/Object", name := "<init>", desc := "()V" } : Jvm.MethodName)) ∈ lw_tbl := zT_tb (List.mem_append_left (tables_1_2 ++ (tables_1_3 ++ tables_1_4)) (List.mem_of_getElem? (i := 24) rfl))
theorem q24 : (Jvm.Cond.instanceMethod ({ cls := "java/lang/Object", name := "<init>", desc := "()V" } : Jvm.MethodName)) ∈ zT := zT_in b24 rfl
theorem b25 : (Jvm.Cond.code ({ cls := "java/lang/Object", name := "<init>", desc := "()V" } : Jvm.MethodName) object_method_1_code (1 : Nat) (Option.none : Option Jvm.ClassFile.FieldType)) ∈ lw_tbl := zT_tb (List.mem_append_left (tables_1_2 ++ (tables_1_3 ++ tables_1_4)) (List.mem_of_getElem? (i := 25) rfl))
theorem q25 : (Jvm.Cond.code ({ cls := "java/lang/Object", name := "<init>", desc := "()V" } : Jvm.MethodName) object_method_1_code (1 : Nat) (Option.none : Option Jvm.ClassFile.FieldType)) ∈ zT := zT_in b25 rfl
theorem b26 : (Jvm.Cond.classLink "DigitChip" (7 : Nat) "DigitChip$Assembler") ∈ lw_tbl := zT_tb (List.mem_append_left (tables_1_2 ++ (tables_1_3 ++ tables_1_4)) (List.mem_of_getElem? (i := 26) rfl))
theorem q26 : (Jvm.Cond.classLink "DigitChip" (7 : Nat) "DigitChip$Assembler") ∈ zT := zT_in b26 rfl
theorem b27 : (Jvm.Cond.instantiable "DigitChip$Assembler" (8 : Nat)) ∈ lw_tbl := zT_tb (List.mem_append_left (tables_1_2 ++ (tables_1_3 ++ tables_1_4)) (List.mem_of_getElem? (i := 27) rfl))
theorem q27 : (Jvm.Cond.instantiable "DigitChip$Assembler" (8 : Nat)) ∈ zT := zT_in b27 rfl
theorem b28 : (Jvm.Cond.methodLinkNest "DigitChip" (9 : Nat) ({ cls := "DigitChip$Assembler", name := "<init>", desc := "()V" } : Jvm.MethodName) "DigitChip") ∈ lw_tbl := zT_tb (List.mem_append_left (tables_1_2 ++ (tables_1_3 ++ tables_1_4)) (List.mem_of_getElem? (i := 28) rfl))
theorem b29 : (Jvm.Cond.instanceMethod ({ cls := "DigitChip$Assembler", name := "<init>", desc := "()V" } : Jvm.MethodName)) ∈ lw_tbl := zT_tb (List.mem_append_left (tables_1_2 ++ (tables_1_3 ++ tables_1_4)) (List.mem_of_getElem? (i := 29) rfl))
theorem q29 : (Jvm.Cond.instanceMethod ({ cls := "DigitChip$Assembler", name := "<init>", desc := "()V" } : Jvm.MethodName)) ∈ zT := zT_in b29 rfl
theorem b30 : (Jvm.Cond.code ({ cls := "DigitChip$Assembler", name := "<init>", desc := "()V" } : Jvm.MethodName) prog_2_method_1_code (1 : Nat) (Option.none : Option Jvm.ClassFile.FieldType)) ∈ lw_tbl := zT_tb (List.mem_append_left (tables_1_2 ++ (tables_1_3 ++ tables_1_4)) (List.mem_of_getElem? (i := 30) rfl))
theorem q30 : (Jvm.Cond.code ({ cls := "DigitChip$Assembler", name := "<init>", desc := "()V" } : Jvm.MethodName) prog_2_method_1_code (1 : Nat) (Option.none : Option Jvm.ClassFile.FieldType)) ∈ zT := zT_in b30 rfl
theorem b31 : (Jvm.Cond.methodLink "DigitChip$Assembler" (3 : Nat) ({ cls := "java/lang/Object", name := "<init>", desc := "()V" } : Jvm.MethodName)) ∈ lw_tbl := zT_tb (List.mem_append_left (tables_1_2 ++ (tables_1_3 ++ tables_1_4)) (List.mem_of_getElem? (i := 31) rfl))
theorem q31 : (Jvm.Cond.methodLink "DigitChip$Assembler" (3 : Nat) ({ cls := "java/lang/Object", name := "<init>", desc := "()V" } : Jvm.MethodName)) ∈ zT := zT_in b31 rfl
theorem b32 : (Jvm.Cond.stringRef "DigitChip$Assembler" (19 : Nat) "abcdefghijklmnopqrstuvwxyz") ∈ lw_tbl := zT_tb (List.mem_append_left (tables_1_2 ++ (tables_1_3 ++ tables_1_4)) (List.mem_of_getElem? (i := 32) rfl))
theorem b33 : (Jvm.Cond.methodLink "DigitChip$Assembler" (21 : Nat) ({ cls := "java/lang/String", name := "length", desc := "()I" } : Jvm.MethodName)) ∈ lw_tbl := zT_tb (List.mem_append_left (tables_1_2 ++ (tables_1_3 ++ tables_1_4)) (List.mem_of_getElem? (i := 33) rfl))
theorem q33 : (Jvm.Cond.methodLink "DigitChip$Assembler" (21 : Nat) ({ cls := "java/lang/String", name := "length", desc := "()I" } : Jvm.MethodName)) ∈ zT := zT_in b33 rfl
theorem b34 : (Jvm.Cond.instanceMethod ({ cls := "java/lang/String", name := "length", desc := "()I" } : Jvm.MethodName)) ∈ lw_tbl := zT_tb (List.mem_append_left (tables_1_2 ++ (tables_1_3 ++ tables_1_4)) (List.mem_of_getElem? (i := 34) rfl))
theorem q34 : (Jvm.Cond.instanceMethod ({ cls := "java/lang/String", name := "length", desc := "()I" } : Jvm.MethodName)) ∈ zT := zT_in b34 rfl
theorem b35 : (Jvm.Cond.selects "java/lang/String" ({ cls := "java/lang/String", name := "length", desc := "()I" } : Jvm.MethodName) ({ cls := "java/lang/String", name := "length", desc := "()I" } : Jvm.MethodName)) ∈ lw_tbl := zT_tb (List.mem_append_left (tables_1_2 ++ (tables_1_3 ++ tables_1_4)) (List.mem_of_getElem? (i := 35) rfl))
theorem q35 : (Jvm.Cond.selects "java/lang/String" ({ cls := "java/lang/String", name := "length", desc := "()I" } : Jvm.MethodName) ({ cls := "java/lang/String", name := "length", desc := "()I" } : Jvm.MethodName)) ∈ zT := zT_in b35 rfl
theorem b36 : (Jvm.Cond.code ({ cls := "java/lang/String", name := "length", desc := "()I" } : Jvm.MethodName) prog_13_method_54_code (1 : Nat) (Option.some Jvm.ClassFile.FieldType.int)) ∈ lw_tbl := zT_tb (List.mem_append_left (tables_1_2 ++ (tables_1_3 ++ tables_1_4)) (List.mem_of_getElem? (i := 36) rfl))
theorem q36 : (Jvm.Cond.code ({ cls := "java/lang/String", name := "length", desc := "()I" } : Jvm.MethodName) prog_13_method_54_code (1 : Nat) (Option.some Jvm.ClassFile.FieldType.int)) ∈ zT := zT_in b36 rfl
theorem b37 : (Jvm.Cond.methodLink "java/lang/String" (335 : Nat) ({ cls := "java/lang/String", name := "coder", desc := "()B" } : Jvm.MethodName)) ∈ lw_tbl := zT_tb (List.mem_append_left (tables_1_2 ++ (tables_1_3 ++ tables_1_4)) (List.mem_of_getElem? (i := 37) rfl))
theorem q37 : (Jvm.Cond.methodLink "java/lang/String" (335 : Nat) ({ cls := "java/lang/String", name := "coder", desc := "()B" } : Jvm.MethodName)) ∈ zT := zT_in b37 rfl
theorem b38 : (Jvm.Cond.instanceMethod ({ cls := "java/lang/String", name := "coder", desc := "()B" } : Jvm.MethodName)) ∈ lw_tbl := zT_tb (List.mem_append_left (tables_1_2 ++ (tables_1_3 ++ tables_1_4)) (List.mem_of_getElem? (i := 38) rfl))
theorem q38 : (Jvm.Cond.instanceMethod ({ cls := "java/lang/String", name := "coder", desc := "()B" } : Jvm.MethodName)) ∈ zT := zT_in b38 rfl
theorem b39 : (Jvm.Cond.selects "java/lang/String" ({ cls := "java/lang/String", name := "coder", desc := "()B" } : Jvm.MethodName) ({ cls := "java/lang/String", name := "coder", desc := "()B" } : Jvm.MethodName)) ∈ lw_tbl := zT_tb (List.mem_append_left (tables_1_2 ++ (tables_1_3 ++ tables_1_4)) (List.mem_of_getElem? (i := 39) rfl))
theorem q39 : (Jvm.Cond.selects "java/lang/String" ({ cls := "java/lang/String", name := "coder", desc := "()B" } : Jvm.MethodName) ({ cls := "java/lang/String", name := "coder", desc := "()B" } : Jvm.MethodName)) ∈ zT := zT_in b39 rfl
theorem b40 : (Jvm.Cond.code ({ cls := "java/lang/String", name := "coder", desc := "()B" } : Jvm.MethodName) prog_13_method_152_code (1 : Nat) (Option.some Jvm.ClassFile.FieldType.byte)) ∈ lw_tbl := zT_tb (List.mem_append_left (tables_1_2 ++ (tables_1_3 ++ tables_1_4)) (List.mem_of_getElem? (i := 40) rfl))
theorem q40 : (Jvm.Cond.code ({ cls := "java/lang/String", name := "coder", desc := "()B" } : Jvm.MethodName) prog_13_method_152_code (1 : Nat) (Option.some Jvm.ClassFile.FieldType.byte)) ∈ zT := zT_in b40 rfl
theorem b41 : (Jvm.Cond.fieldLink "java/lang/String" (38 : Nat) "java/lang/String" "COMPACT_STRINGS" "Z") ∈ lw_tbl := zT_tb (List.mem_append_left (tables_1_2 ++ (tables_1_3 ++ tables_1_4)) (List.mem_of_getElem? (i := 41) rfl))
theorem q41 : (Jvm.Cond.fieldLink "java/lang/String" (38 : Nat) "java/lang/String" "COMPACT_STRINGS" "Z") ∈ zT := zT_in b41 rfl
theorem b42 : (Jvm.Cond.laysStatic "java/lang/String" "COMPACT_STRINGS" "Z") ∈ lw_tbl := zT_tb (List.mem_append_left (tables_1_2 ++ (tables_1_3 ++ tables_1_4)) (List.mem_of_getElem? (i := 42) rfl))
theorem b43 : (Jvm.Cond.fieldLink "DigitChip$Assembler" (11 : Nat) "DigitChip$Assembler" "text" "[C") ∈ lw_tbl := zT_tb (List.mem_append_left (tables_1_2 ++ (tables_1_3 ++ tables_1_4)) (List.mem_of_getElem? (i := 43) rfl))
theorem q43 : (Jvm.Cond.fieldLink "DigitChip$Assembler" (11 : Nat) "DigitChip$Assembler" "text" "[C") ∈ zT := zT_in b43 rfl
theorem b44 : (Jvm.Cond.fieldLink "DigitChip$Assembler" (15 : Nat) "DigitChip$Assembler" "length" "I") ∈ lw_tbl := zT_tb (List.mem_append_left (tables_1_2 ++ (tables_1_3 ++ tables_1_4)) (List.mem_of_getElem? (i := 44) rfl))
theorem q44 : (Jvm.Cond.fieldLink "DigitChip$Assembler" (15 : Nat) "DigitChip$Assembler" "length" "I") ∈ zT := zT_in b44 rfl
theorem b45 : (Jvm.Cond.fieldLink "DigitChip$Assembler" (26 : Nat) "DigitChip$Assembler" "labels" "[I") ∈ lw_tbl := zT_tb (List.mem_append_left (tables_1_2 ++ (tables_1_3 ++ tables_1_4)) (List.mem_of_getElem? (i := 45) rfl))
theorem q45 : (Jvm.Cond.fieldLink "DigitChip$Assembler" (26 : Nat) "DigitChip$Assembler" "labels" "[I") ∈ zT := zT_in b45 rfl
theorem b46 : (Jvm.Cond.fieldLink "DigitChip$Assembler" (30 : Nat) "DigitChip$Assembler" "begins" "[I") ∈ lw_tbl := zT_tb (List.mem_append_left (tables_1_2 ++ (tables_1_3 ++ tables_1_4)) (List.mem_of_getElem? (i := 46) rfl))
theorem q46 : (Jvm.Cond.fieldLink "DigitChip$Assembler" (30 : Nat) "DigitChip$Assembler" "begins" "[I") ∈ zT := zT_in b46 rfl
theorem b47 : (Jvm.Cond.fieldLink "DigitChip$Assembler" (33 : Nat) "DigitChip$Assembler" "choice" "I") ∈ lw_tbl := zT_tb (List.mem_append_left (tables_1_2 ++ (tables_1_3 ++ tables_1_4)) (List.mem_of_getElem? (i := 47) rfl))
theorem q47 : (Jvm.Cond.fieldLink "DigitChip$Assembler" (33 : Nat) "DigitChip$Assembler" "choice" "I") ∈ zT := zT_in b47 rfl
theorem b48 : (Jvm.Cond.fieldLink "DigitChip$Assembler" (36 : Nat) "DigitChip$Assembler" "words" "[I") ∈ lw_tbl := zT_tb (List.mem_append_left (tables_1_2 ++ (tables_1_3 ++ tables_1_4)) (List.mem_of_getElem? (i := 48) rfl))
theorem q48 : (Jvm.Cond.fieldLink "DigitChip$Assembler" (36 : Nat) "DigitChip$Assembler" "words" "[I") ∈ zT := zT_in b48 rfl
theorem b49 : (Jvm.Cond.fieldLink "DigitChip" (34 : Nat) "DigitChip$Assembler" "words" "[I") ∈ lw_tbl := zT_tb (List.mem_append_left (tables_1_2 ++ (tables_1_3 ++ tables_1_4)) (List.mem_of_getElem? (i := 49) rfl))
theorem q49 : (Jvm.Cond.fieldLink "DigitChip" (34 : Nat) "DigitChip$Assembler" "words" "[I") ∈ zT := zT_in b49 rfl
theorem b50 : (Jvm.Cond.fieldLink "DigitChip$Assembler" (39 : Nat) "DigitChip$Assembler" "count" "I") ∈ lw_tbl := zT_tb (List.mem_append_left (tables_1_2 ++ (tables_1_3 ++ tables_1_4)) (List.mem_of_getElem? (i := 50) rfl))
theorem q50 : (Jvm.Cond.fieldLink "DigitChip$Assembler" (39 : Nat) "DigitChip$Assembler" "count" "I") ∈ zT := zT_in b50 rfl
theorem b51 : (Jvm.Cond.fieldLink "DigitChip" (38 : Nat) "DigitChip$Assembler" "count" "I") ∈ lw_tbl := zT_tb (List.mem_append_left (tables_1_2 ++ (tables_1_3 ++ tables_1_4)) (List.mem_of_getElem? (i := 51) rfl))
theorem q51 : (Jvm.Cond.fieldLink "DigitChip" (38 : Nat) "DigitChip$Assembler" "count" "I") ∈ zT := zT_in b51 rfl
theorem b52 : (Jvm.Cond.fieldLink "DigitChip$Assembler" (42 : Nat) "DigitChip$Assembler" "ill" "I") ∈ lw_tbl := zT_tb (List.mem_append_left (tables_1_2 ++ (tables_1_3 ++ tables_1_4)) (List.mem_of_getElem? (i := 52) rfl))
theorem q52 : (Jvm.Cond.fieldLink "DigitChip$Assembler" (42 : Nat) "DigitChip$Assembler" "ill" "I") ∈ zT := zT_in b52 rfl
theorem b53 : (Jvm.Cond.fieldLink "DigitChip" (46 : Nat) "DigitChip$Assembler" "ill" "I") ∈ lw_tbl := zT_tb (List.mem_append_left (tables_1_2 ++ (tables_1_3 ++ tables_1_4)) (List.mem_of_getElem? (i := 53) rfl))
theorem q53 : (Jvm.Cond.fieldLink "DigitChip" (46 : Nat) "DigitChip$Assembler" "ill" "I") ∈ zT := zT_in b53 rfl
theorem b54 : (Jvm.Cond.laysFinal "DigitChip$Assembler" "DigitChip$Assembler" "text" "[C") ∈ lw_tbl := zT_tb (List.mem_append_left (tables_1_2 ++ (tables_1_3 ++ tables_1_4)) (List.mem_of_getElem? (i := 54) rfl))
theorem q54 : (Jvm.Cond.laysFinal "DigitChip$Assembler" "DigitChip$Assembler" "text" "[C") ∈ zT := zT_in b54 rfl
theorem b55 : (Jvm.Cond.soleField "DigitChip$Assembler" "text") ∈ lw_tbl := zT_tb (List.mem_append_left (tables_1_2 ++ (tables_1_3 ++ tables_1_4)) (List.mem_of_getElem? (i := 55) rfl))
theorem b56 : (Jvm.Cond.lays "DigitChip$Assembler" "DigitChip$Assembler" "length" "I") ∈ lw_tbl := zT_tb (List.mem_append_left (tables_1_2 ++ (tables_1_3 ++ tables_1_4)) (List.mem_of_getElem? (i := 56) rfl))
theorem q56 : (Jvm.Cond.lays "DigitChip$Assembler" "DigitChip$Assembler" "length" "I") ∈ zT := zT_in b56 rfl
theorem b57 : (Jvm.Cond.soleField "DigitChip$Assembler" "length") ∈ lw_tbl := zT_tb (List.mem_append_left (tables_1_2 ++ (tables_1_3 ++ tables_1_4)) (List.mem_of_getElem? (i := 57) rfl))
theorem b58 : (Jvm.Cond.laysFinal "DigitChip$Assembler" "DigitChip$Assembler" "labels" "[I") ∈ lw_tbl := zT_tb (List.mem_append_left (tables_1_2 ++ (tables_1_3 ++ tables_1_4)) (List.mem_of_getElem? (i := 58) rfl))
theorem q58 : (Jvm.Cond.laysFinal "DigitChip$Assembler" "DigitChip$Assembler" "labels" "[I") ∈ zT := zT_in b58 rfl
theorem b59 : (Jvm.Cond.soleField "DigitChip$Assembler" "labels") ∈ lw_tbl := zT_tb (List.mem_append_left (tables_1_2 ++ (tables_1_3 ++ tables_1_4)) (List.mem_of_getElem? (i := 59) rfl))
theorem b60 : (Jvm.Cond.laysFinal "DigitChip$Assembler" "DigitChip$Assembler" "begins" "[I") ∈ lw_tbl := zT_tb (List.mem_append_left (tables_1_2 ++ (tables_1_3 ++ tables_1_4)) (List.mem_of_getElem? (i := 60) rfl))
theorem q60 : (Jvm.Cond.laysFinal "DigitChip$Assembler" "DigitChip$Assembler" "begins" "[I") ∈ zT := zT_in b60 rfl
theorem b61 : (Jvm.Cond.soleField "DigitChip$Assembler" "begins") ∈ lw_tbl := zT_tb (List.mem_append_left (tables_1_2 ++ (tables_1_3 ++ tables_1_4)) (List.mem_of_getElem? (i := 61) rfl))
theorem b62 : (Jvm.Cond.lays "DigitChip$Assembler" "DigitChip$Assembler" "choice" "I") ∈ lw_tbl := zT_tb (List.mem_append_left (tables_1_2 ++ (tables_1_3 ++ tables_1_4)) (List.mem_of_getElem? (i := 62) rfl))
theorem q62 : (Jvm.Cond.lays "DigitChip$Assembler" "DigitChip$Assembler" "choice" "I") ∈ zT := zT_in b62 rfl
theorem b63 : (Jvm.Cond.soleField "DigitChip$Assembler" "choice") ∈ lw_tbl := zT_tb (List.mem_append_left (tables_1_2 ++ (tables_1_3 ++ tables_1_4)) (List.mem_of_getElem? (i := 63) rfl))
theorem b64 : (Jvm.Cond.laysFinal "DigitChip$Assembler" "DigitChip$Assembler" "words" "[I") ∈ lw_tbl := zT_tb (List.mem_append_left (tables_1_2 ++ (tables_1_3 ++ tables_1_4)) (List.mem_of_getElem? (i := 64) rfl))
theorem q64 : (Jvm.Cond.laysFinal "DigitChip$Assembler" "DigitChip$Assembler" "words" "[I") ∈ zT := zT_in b64 rfl
theorem b65 : (Jvm.Cond.soleField "DigitChip$Assembler" "words") ∈ lw_tbl := zT_tb (List.mem_append_left (tables_1_2 ++ (tables_1_3 ++ tables_1_4)) (List.mem_of_getElem? (i := 65) rfl))
theorem b66 : (Jvm.Cond.lays "DigitChip$Assembler" "DigitChip$Assembler" "count" "I") ∈ lw_tbl := zT_tb (List.mem_append_left (tables_1_2 ++ (tables_1_3 ++ tables_1_4)) (List.mem_of_getElem? (i := 66) rfl))
theorem q66 : (Jvm.Cond.lays "DigitChip$Assembler" "DigitChip$Assembler" "count" "I") ∈ zT := zT_in b66 rfl
theorem b67 : (Jvm.Cond.soleField "DigitChip$Assembler" "count") ∈ lw_tbl := zT_tb (List.mem_append_left (tables_1_2 ++ (tables_1_3 ++ tables_1_4)) (List.mem_of_getElem? (i := 67) rfl))
theorem b68 : (Jvm.Cond.lays "DigitChip$Assembler" "DigitChip$Assembler" "ill" "I") ∈ lw_tbl := zT_tb (List.mem_append_left (tables_1_2 ++ (tables_1_3 ++ tables_1_4)) (List.mem_of_getElem? (i := 68) rfl))
theorem q68 : (Jvm.Cond.lays "DigitChip$Assembler" "DigitChip$Assembler" "ill" "I") ∈ zT := zT_in b68 rfl
theorem b69 : (Jvm.Cond.soleField "DigitChip$Assembler" "ill") ∈ lw_tbl := zT_tb (List.mem_append_left (tables_1_2 ++ (tables_1_3 ++ tables_1_4)) (List.mem_of_getElem? (i := 69) rfl))
theorem b70 : (Jvm.Cond.superclass "DigitChip$Assembler" "java/lang/Object") ∈ lw_tbl := zT_tb (List.mem_append_left (tables_1_2 ++ (tables_1_3 ++ tables_1_4)) (List.mem_of_getElem? (i := 70) rfl))
theorem b71 : (Jvm.Cond.arrayClass Jvm.ClassFile.FieldType.char) ∈ lw_tbl := zT_tb (List.mem_append_left (tables_1_2 ++ (tables_1_3 ++ tables_1_4)) (List.mem_of_getElem? (i := 71) rfl))
theorem q71 : (Jvm.Cond.arrayClass Jvm.ClassFile.FieldType.char) ∈ zT := zT_in b71 rfl
theorem b72 : (Jvm.Cond.arrayClass Jvm.ClassFile.FieldType.byte) ∈ lw_tbl := zT_tb (List.mem_append_left (tables_1_2 ++ (tables_1_3 ++ tables_1_4)) (List.mem_of_getElem? (i := 72) rfl))
theorem q72 : (Jvm.Cond.arrayClass Jvm.ClassFile.FieldType.byte) ∈ zT := zT_in b72 rfl
theorem b73 : (Jvm.Cond.arrayClass Jvm.ClassFile.FieldType.int) ∈ lw_tbl := zT_tb (List.mem_append_left (tables_1_2 ++ (tables_1_3 ++ tables_1_4)) (List.mem_of_getElem? (i := 73) rfl))
theorem q73 : (Jvm.Cond.arrayClass Jvm.ClassFile.FieldType.int) ∈ zT := zT_in b73 rfl
theorem b74 : (Jvm.Cond.classLink "DigitChip" (16 : Nat) "DigitChip$Processor") ∈ lw_tbl := zT_tb (List.mem_append_left (tables_1_2 ++ (tables_1_3 ++ tables_1_4)) (List.mem_of_getElem? (i := 74) rfl))
theorem q74 : (Jvm.Cond.classLink "DigitChip" (16 : Nat) "DigitChip$Processor") ∈ zT := zT_in b74 rfl
theorem b75 : (Jvm.Cond.instantiable "DigitChip$Processor" (9 : Nat)) ∈ lw_tbl := zT_tb (List.mem_append_left (tables_1_2 ++ (tables_1_3 ++ tables_1_4)) (List.mem_of_getElem? (i := 75) rfl))
theorem q75 : (Jvm.Cond.instantiable "DigitChip$Processor" (9 : Nat)) ∈ zT := zT_in b75 rfl
theorem b76 : (Jvm.Cond.methodLinkNest "DigitChip" (18 : Nat) ({ cls := "DigitChip$Processor", name := "<init>", desc := "()V" } : Jvm.MethodName) "DigitChip") ∈ lw_tbl := zT_tb (List.mem_append_left (tables_1_2 ++ (tables_1_3 ++ tables_1_4)) (List.mem_of_getElem? (i := 76) rfl))
theorem b77 : (Jvm.Cond.instanceMethod ({ cls := "DigitChip$Processor", name := "<init>", desc := "()V" } : Jvm.MethodName)) ∈ lw_tbl := zT_tb (List.mem_append_left (tables_1_2 ++ (tables_1_3 ++ tables_1_4)) (List.mem_of_getElem? (i := 77) rfl))
theorem q77 : (Jvm.Cond.instanceMethod ({ cls := "DigitChip$Processor", name := "<init>", desc := "()V" } : Jvm.MethodName)) ∈ zT := zT_in b77 rfl
theorem b78 : (Jvm.Cond.code ({ cls := "DigitChip$Processor", name := "<init>", desc := "()V" } : Jvm.MethodName) prog_3_method_1_code (1 : Nat) (Option.none : Option Jvm.ClassFile.FieldType)) ∈ lw_tbl := zT_tb (List.mem_append_left (tables_1_2 ++ (tables_1_3 ++ tables_1_4)) (List.mem_of_getElem? (i := 78) rfl))
theorem q78 : (Jvm.Cond.code ({ cls := "DigitChip$Processor", name := "<init>", desc := "()V" } : Jvm.MethodName) prog_3_method_1_code (1 : Nat) (Option.none : Option Jvm.ClassFile.FieldType)) ∈ zT := zT_in b78 rfl
theorem b79 : (Jvm.Cond.methodLink "DigitChip$Processor" (3 : Nat) ({ cls := "java/lang/Object", name := "<init>", desc := "()V" } : Jvm.MethodName)) ∈ lw_tbl := zT_tb (List.mem_append_left (tables_1_2 ++ (tables_1_3 ++ tables_1_4)) (List.mem_of_getElem? (i := 79) rfl))
theorem q79 : (Jvm.Cond.methodLink "DigitChip$Processor" (3 : Nat) ({ cls := "java/lang/Object", name := "<init>", desc := "()V" } : Jvm.MethodName)) ∈ zT := zT_in b79 rfl
theorem b80 : (Jvm.Cond.classLink "DigitChip$Processor" (15 : Nat) "DigitChip$Registers") ∈ lw_tbl := zT_tb (List.mem_append_left (tables_1_2 ++ (tables_1_3 ++ tables_1_4)) (List.mem_of_getElem? (i := 80) rfl))
theorem q80 : (Jvm.Cond.classLink "DigitChip$Processor" (15 : Nat) "DigitChip$Registers") ∈ zT := zT_in b80 rfl
theorem b81 : (Jvm.Cond.instantiable "DigitChip$Registers" (3 : Nat)) ∈ lw_tbl := zT_tb (List.mem_append_left (tables_1_2 ++ (tables_1_3 ++ tables_1_4)) (List.mem_of_getElem? (i := 81) rfl))
theorem q81 : (Jvm.Cond.instantiable "DigitChip$Registers" (3 : Nat)) ∈ zT := zT_in b81 rfl
theorem b82 : (Jvm.Cond.methodLinkNest "DigitChip$Processor" (17 : Nat) ({ cls := "DigitChip$Registers", name := "<init>", desc := "()V" } : Jvm.MethodName) "DigitChip") ∈ lw_tbl := zT_tb (List.mem_append_left (tables_1_2 ++ (tables_1_3 ++ tables_1_4)) (List.mem_of_getElem? (i := 82) rfl))
theorem b83 : (Jvm.Cond.instanceMethod ({ cls := "DigitChip$Registers", name := "<init>", desc := "()V" } : Jvm.MethodName)) ∈ lw_tbl := zT_tb (List.mem_append_left (tables_1_2 ++ (tables_1_3 ++ tables_1_4)) (List.mem_of_getElem? (i := 83) rfl))
theorem q83 : (Jvm.Cond.instanceMethod ({ cls := "DigitChip$Registers", name := "<init>", desc := "()V" } : Jvm.MethodName)) ∈ zT := zT_in b83 rfl
theorem b84 : (Jvm.Cond.code ({ cls := "DigitChip$Registers", name := "<init>", desc := "()V" } : Jvm.MethodName) prog_4_method_1_code (1 : Nat) (Option.none : Option Jvm.ClassFile.FieldType)) ∈ lw_tbl := zT_tb (List.mem_append_left (tables_1_2 ++ (tables_1_3 ++ tables_1_4)) (List.mem_of_getElem? (i := 84) rfl))
theorem q84 : (Jvm.Cond.code ({ cls := "DigitChip$Registers", name := "<init>", desc := "()V" } : Jvm.MethodName) prog_4_method_1_code (1 : Nat) (Option.none : Option Jvm.ClassFile.FieldType)) ∈ zT := zT_in b84 rfl
theorem b85 : (Jvm.Cond.methodLink "DigitChip$Registers" (3 : Nat) ({ cls := "java/lang/Object", name := "<init>", desc := "()V" } : Jvm.MethodName)) ∈ lw_tbl := zT_tb (List.mem_append_left (tables_1_2 ++ (tables_1_3 ++ tables_1_4)) (List.mem_of_getElem? (i := 85) rfl))
theorem q85 : (Jvm.Cond.methodLink "DigitChip$Registers" (3 : Nat) ({ cls := "java/lang/Object", name := "<init>", desc := "()V" } : Jvm.MethodName)) ∈ zT := zT_in b85 rfl
theorem b86 : (Jvm.Cond.fieldLink "DigitChip$Registers" (9 : Nat) "DigitChip$Registers" "numbers" "[J") ∈ lw_tbl := zT_tb (List.mem_append_left (tables_1_2 ++ (tables_1_3 ++ tables_1_4)) (List.mem_of_getElem? (i := 86) rfl))
theorem q86 : (Jvm.Cond.fieldLink "DigitChip$Registers" (9 : Nat) "DigitChip$Registers" "numbers" "[J") ∈ zT := zT_in b86 rfl
theorem b87 : (Jvm.Cond.fieldLink "DigitChip" (76 : Nat) "DigitChip$Registers" "numbers" "[J") ∈ lw_tbl := zT_tb (List.mem_append_left (tables_1_2 ++ (tables_1_3 ++ tables_1_4)) (List.mem_of_getElem? (i := 87) rfl))
theorem q87 : (Jvm.Cond.fieldLink "DigitChip" (76 : Nat) "DigitChip$Registers" "numbers" "[J") ∈ zT := zT_in b87 rfl
theorem b88 : (Jvm.Cond.fieldLink "DigitChip$Processor" (103 : Nat) "DigitChip$Registers" "numbers" "[J") ∈ lw_tbl := zT_tb (List.mem_append_left (tables_1_2 ++ (tables_1_3 ++ tables_1_4)) (List.mem_of_getElem? (i := 88) rfl))
theorem q88 : (Jvm.Cond.fieldLink "DigitChip$Processor" (103 : Nat) "DigitChip$Registers" "numbers" "[J") ∈ zT := zT_in b88 rfl
theorem b89 : (Jvm.Cond.fieldLink "DigitChip$Registers" (15 : Nat) "DigitChip$Registers" "unit" "J") ∈ lw_tbl := zT_tb (List.mem_append_left (tables_1_2 ++ (tables_1_3 ++ tables_1_4)) (List.mem_of_getElem? (i := 89) rfl))
theorem q89 : (Jvm.Cond.fieldLink "DigitChip$Registers" (15 : Nat) "DigitChip$Registers" "unit" "J") ∈ zT := zT_in b89 rfl
theorem b90 : (Jvm.Cond.fieldLink "DigitChip$Registers" (19 : Nat) "DigitChip$Registers" "limit" "J") ∈ lw_tbl := zT_tb (List.mem_append_left (tables_1_2 ++ (tables_1_3 ++ tables_1_4)) (List.mem_of_getElem? (i := 90) rfl))
theorem q90 : (Jvm.Cond.fieldLink "DigitChip$Registers" (19 : Nat) "DigitChip$Registers" "limit" "J") ∈ zT := zT_in b90 rfl
theorem b91 : (Jvm.Cond.fieldLink "DigitChip$Processor" (116 : Nat) "DigitChip$Registers" "limit" "J") ∈ lw_tbl := zT_tb (List.mem_append_left (tables_1_2 ++ (tables_1_3 ++ tables_1_4)) (List.mem_of_getElem? (i := 91) rfl))
theorem q91 : (Jvm.Cond.fieldLink "DigitChip$Processor" (116 : Nat) "DigitChip$Registers" "limit" "J") ∈ zT := zT_in b91 rfl
theorem b92 : (Jvm.Cond.laysFinal "DigitChip$Registers" "DigitChip$Registers" "numbers" "[J") ∈ lw_tbl := zT_tb (List.mem_append_left (tables_1_2 ++ (tables_1_3 ++ tables_1_4)) (List.mem_of_getElem? (i := 92) rfl))
theorem q92 : (Jvm.Cond.laysFinal "DigitChip$Registers" "DigitChip$Registers" "numbers" "[J") ∈ zT := zT_in b92 rfl
theorem b93 : (Jvm.Cond.soleField "DigitChip$Registers" "numbers") ∈ lw_tbl := zT_tb (List.mem_append_left (tables_1_2 ++ (tables_1_3 ++ tables_1_4)) (List.mem_of_getElem? (i := 93) rfl))
theorem b94 : (Jvm.Cond.lays "DigitChip$Registers" "DigitChip$Registers" "unit" "J") ∈ lw_tbl := zT_tb (List.mem_append_left (tables_1_2 ++ (tables_1_3 ++ tables_1_4)) (List.mem_of_getElem? (i := 94) rfl))
theorem q94 : (Jvm.Cond.lays "DigitChip$Registers" "DigitChip$Registers" "unit" "J") ∈ zT := zT_in b94 rfl
theorem b95 : (Jvm.Cond.soleField "DigitChip$Registers" "unit") ∈ lw_tbl := zT_tb (List.mem_append_left (tables_1_2 ++ (tables_1_3 ++ tables_1_4)) (List.mem_of_getElem? (i := 95) rfl))
theorem b96 : (Jvm.Cond.lays "DigitChip$Registers" "DigitChip$Registers" "limit" "J") ∈ lw_tbl := zT_tb (List.mem_append_left (tables_1_2 ++ (tables_1_3 ++ tables_1_4)) (List.mem_of_getElem? (i := 96) rfl))
theorem q96 : (Jvm.Cond.lays "DigitChip$Registers" "DigitChip$Registers" "limit" "J") ∈ zT := zT_in b96 rfl
theorem b97 : (Jvm.Cond.soleField "DigitChip$Registers" "limit") ∈ lw_tbl := zT_tb (List.mem_append_left (tables_1_2 ++ (tables_1_3 ++ tables_1_4)) (List.mem_of_getElem? (i := 97) rfl))
theorem b98 : (Jvm.Cond.superclass "DigitChip$Registers" "java/lang/Object") ∈ lw_tbl := zT_tb (List.mem_append_left (tables_1_2 ++ (tables_1_3 ++ tables_1_4)) (List.mem_of_getElem? (i := 98) rfl))
theorem b99 : (Jvm.Cond.arrayClass Jvm.ClassFile.FieldType.long) ∈ lw_tbl := zT_tb (List.mem_append_left (tables_1_2 ++ (tables_1_3 ++ tables_1_4)) (List.mem_of_getElem? (i := 99) rfl))
theorem q99 : (Jvm.Cond.arrayClass Jvm.ClassFile.FieldType.long) ∈ zT := zT_in b99 rfl
theorem b100 : (Jvm.Cond.classLink "DigitChip$Processor" (22 : Nat) "DigitChip$Waiting") ∈ lw_tbl := zT_tb (List.mem_append_left (tables_1_2 ++ (tables_1_3 ++ tables_1_4)) (List.mem_of_getElem? (i := 100) rfl))
theorem q100 : (Jvm.Cond.classLink "DigitChip$Processor" (22 : Nat) "DigitChip$Waiting") ∈ zT := zT_in b100 rfl
theorem b101 : (Jvm.Cond.instantiable "DigitChip$Waiting" (2 : Nat)) ∈ lw_tbl := zT_tb (List.mem_append_left (tables_1_2 ++ (tables_1_3 ++ tables_1_4)) (List.mem_of_getElem? (i := 101) rfl))
theorem q101 : (Jvm.Cond.instantiable "DigitChip$Waiting" (2 : Nat)) ∈ zT := zT_in b101 rfl
theorem b102 : (Jvm.Cond.methodLinkNest "DigitChip$Processor" (24 : Nat) ({ cls := "DigitChip$Waiting", name := "<init>", desc := "()V" } : Jvm.MethodName) "DigitChip") ∈ lw_tbl := zT_tb (List.mem_append_left (tables_1_2 ++ (tables_1_3 ++ tables_1_4)) (List.mem_of_getElem? (i := 102) rfl))
theorem b103 : (Jvm.Cond.instanceMethod ({ cls := "DigitChip$Waiting", name := "<init>", desc := "()V" } : Jvm.MethodName)) ∈ lw_tbl := zT_tb (List.mem_append_left (tables_1_2 ++ (tables_1_3 ++ tables_1_4)) (List.mem_of_getElem? (i := 103) rfl))
theorem q103 : (Jvm.Cond.instanceMethod ({ cls := "DigitChip$Waiting", name := "<init>", desc := "()V" } : Jvm.MethodName)) ∈ zT := zT_in b103 rfl
theorem b104 : (Jvm.Cond.code ({ cls := "DigitChip$Waiting", name := "<init>", desc := "()V" } : Jvm.MethodName) prog_5_method_1_code (1 : Nat) (Option.none : Option Jvm.ClassFile.FieldType)) ∈ lw_tbl := zT_tb (List.mem_append_left (tables_1_2 ++ (tables_1_3 ++ tables_1_4)) (List.mem_of_getElem? (i := 104) rfl))
theorem q104 : (Jvm.Cond.code ({ cls := "DigitChip$Waiting", name := "<init>", desc := "()V" } : Jvm.MethodName) prog_5_method_1_code (1 : Nat) (Option.none : Option Jvm.ClassFile.FieldType)) ∈ zT := zT_in b104 rfl
theorem b105 : (Jvm.Cond.methodLink "DigitChip$Waiting" (3 : Nat) ({ cls := "java/lang/Object", name := "<init>", desc := "()V" } : Jvm.MethodName)) ∈ lw_tbl := zT_tb (List.mem_append_left (tables_1_2 ++ (tables_1_3 ++ tables_1_4)) (List.mem_of_getElem? (i := 105) rfl))
theorem q105 : (Jvm.Cond.methodLink "DigitChip$Waiting" (3 : Nat) ({ cls := "java/lang/Object", name := "<init>", desc := "()V" } : Jvm.MethodName)) ∈ zT := zT_in b105 rfl
theorem b106 : (Jvm.Cond.fieldLink "DigitChip$Waiting" (11 : Nat) "DigitChip$Waiting" "row" "[I") ∈ lw_tbl := zT_tb (List.mem_append_left (tables_1_2 ++ (tables_1_3 ++ tables_1_4)) (List.mem_of_getElem? (i := 106) rfl))
theorem q106 : (Jvm.Cond.fieldLink "DigitChip$Waiting" (11 : Nat) "DigitChip$Waiting" "row" "[I") ∈ zT := zT_in b106 rfl
theorem b107 : (Jvm.Cond.fieldLink "DigitChip$Waiting" (15 : Nat) "DigitChip$Waiting" "count" "I") ∈ lw_tbl := zT_tb (List.mem_append_left (tables_1_2 ++ (tables_1_3 ++ tables_1_4)) (List.mem_of_getElem? (i := 107) rfl))
theorem q107 : (Jvm.Cond.fieldLink "DigitChip$Waiting" (15 : Nat) "DigitChip$Waiting" "count" "I") ∈ zT := zT_in b107 rfl
theorem b108 : (Jvm.Cond.fieldLink "DigitChip" (64 : Nat) "DigitChip$Waiting" "count" "I") ∈ lw_tbl := zT_tb (List.mem_append_left (tables_1_2 ++ (tables_1_3 ++ tables_1_4)) (List.mem_of_getElem? (i := 108) rfl))
theorem q108 : (Jvm.Cond.fieldLink "DigitChip" (64 : Nat) "DigitChip$Waiting" "count" "I") ∈ zT := zT_in b108 rfl
theorem b109 : (Jvm.Cond.laysFinal "DigitChip$Waiting" "DigitChip$Waiting" "row" "[I") ∈ lw_tbl := zT_tb (List.mem_append_left (tables_1_2 ++ (tables_1_3 ++ tables_1_4)) (List.mem_of_getElem? (i := 109) rfl))
theorem q109 : (Jvm.Cond.laysFinal "DigitChip$Waiting" "DigitChip$Waiting" "row" "[I") ∈ zT := zT_in b109 rfl
theorem b110 : (Jvm.Cond.soleField "DigitChip$Waiting" "row") ∈ lw_tbl := zT_tb (List.mem_append_left (tables_1_2 ++ (tables_1_3 ++ tables_1_4)) (List.mem_of_getElem? (i := 110) rfl))
theorem b111 : (Jvm.Cond.lays "DigitChip$Waiting" "DigitChip$Waiting" "count" "I") ∈ lw_tbl := zT_tb (List.mem_append_left (tables_1_2 ++ (tables_1_3 ++ tables_1_4)) (List.mem_of_getElem? (i := 111) rfl))
theorem q111 : (Jvm.Cond.lays "DigitChip$Waiting" "DigitChip$Waiting" "count" "I") ∈ zT := zT_in b111 rfl
theorem b112 : (Jvm.Cond.soleField "DigitChip$Waiting" "count") ∈ lw_tbl := zT_tb (List.mem_append_left (tables_1_2 ++ (tables_1_3 ++ tables_1_4)) (List.mem_of_getElem? (i := 112) rfl))
theorem b113 : (Jvm.Cond.superclass "DigitChip$Waiting" "java/lang/Object") ∈ lw_tbl := zT_tb (List.mem_append_left (tables_1_2 ++ (tables_1_3 ++ tables_1_4)) (List.mem_of_getElem? (i := 113) rfl))
theorem b114 : (Jvm.Cond.fieldLink "DigitChip$Processor" (9 : Nat) "DigitChip$Processor" "memory" "[I") ∈ lw_tbl := zT_tb (List.mem_append_left (tables_1_2 ++ (tables_1_3 ++ tables_1_4)) (List.mem_of_getElem? (i := 114) rfl))
theorem q114 : (Jvm.Cond.fieldLink "DigitChip$Processor" (9 : Nat) "DigitChip$Processor" "memory" "[I") ∈ zT := zT_in b114 rfl
theorem b115 : (Jvm.Cond.fieldLink "DigitChip" (53 : Nat) "DigitChip$Processor" "memory" "[I") ∈ lw_tbl := zT_tb (List.mem_append_left (tables_1_2 ++ (tables_1_3 ++ tables_1_4)) (List.mem_of_getElem? (i := 115) rfl))
theorem q115 : (Jvm.Cond.fieldLink "DigitChip" (53 : Nat) "DigitChip$Processor" "memory" "[I") ∈ zT := zT_in b115 rfl
theorem b116 : (Jvm.Cond.fieldLink "DigitChip$Processor" (18 : Nat) "DigitChip$Processor" "registers" "LDigitChip$Registers;") ∈ lw_tbl := zT_tb (List.mem_append_left (tables_1_2 ++ (tables_1_3 ++ tables_1_4)) (List.mem_of_getElem? (i := 116) rfl))
theorem q116 : (Jvm.Cond.fieldLink "DigitChip$Processor" (18 : Nat) "DigitChip$Processor" "registers" "LDigitChip$Registers;") ∈ zT := zT_in b116 rfl
theorem b117 : (Jvm.Cond.fieldLink "DigitChip" (72 : Nat) "DigitChip$Processor" "registers" "LDigitChip$Registers;") ∈ lw_tbl := zT_tb (List.mem_append_left (tables_1_2 ++ (tables_1_3 ++ tables_1_4)) (List.mem_of_getElem? (i := 117) rfl))
theorem q117 : (Jvm.Cond.fieldLink "DigitChip" (72 : Nat) "DigitChip$Processor" "registers" "LDigitChip$Registers;") ∈ zT := zT_in b117 rfl
theorem b118 : (Jvm.Cond.fieldLink "DigitChip$Processor" (25 : Nat) "DigitChip$Processor" "waiting" "LDigitChip$Waiting;") ∈ lw_tbl := zT_tb (List.mem_append_left (tables_1_2 ++ (tables_1_3 ++ tables_1_4)) (List.mem_of_getElem? (i := 118) rfl))
theorem q118 : (Jvm.Cond.fieldLink "DigitChip$Processor" (25 : Nat) "DigitChip$Processor" "waiting" "LDigitChip$Waiting;") ∈ zT := zT_in b118 rfl
theorem b119 : (Jvm.Cond.fieldLink "DigitChip" (56 : Nat) "DigitChip$Processor" "waiting" "LDigitChip$Waiting;") ∈ lw_tbl := zT_tb (List.mem_append_left (tables_1_2 ++ (tables_1_3 ++ tables_1_4)) (List.mem_of_getElem? (i := 119) rfl))
theorem q119 : (Jvm.Cond.fieldLink "DigitChip" (56 : Nat) "DigitChip$Processor" "waiting" "LDigitChip$Waiting;") ∈ zT := zT_in b119 rfl
theorem b120 : (Jvm.Cond.fieldLink "DigitChip$Processor" (29 : Nat) "DigitChip$Processor" "pointer" "I") ∈ lw_tbl := zT_tb (List.mem_append_left (tables_1_2 ++ (tables_1_3 ++ tables_1_4)) (List.mem_of_getElem? (i := 120) rfl))
theorem q120 : (Jvm.Cond.fieldLink "DigitChip$Processor" (29 : Nat) "DigitChip$Processor" "pointer" "I") ∈ zT := zT_in b120 rfl
theorem b121 : (Jvm.Cond.fieldLink "DigitChip" (87 : Nat) "DigitChip$Processor" "pointer" "I") ∈ lw_tbl := zT_tb (List.mem_append_left (tables_1_2 ++ (tables_1_3 ++ tables_1_4)) (List.mem_of_getElem? (i := 121) rfl))
theorem q121 : (Jvm.Cond.fieldLink "DigitChip" (87 : Nat) "DigitChip$Processor" "pointer" "I") ∈ zT := zT_in b121 rfl
theorem b122 : (Jvm.Cond.fieldLink "DigitChip$Processor" (33 : Nat) "DigitChip$Processor" "status" "I") ∈ lw_tbl := zT_tb (List.mem_append_left (tables_1_2 ++ (tables_1_3 ++ tables_1_4)) (List.mem_of_getElem? (i := 122) rfl))
theorem q122 : (Jvm.Cond.fieldLink "DigitChip$Processor" (33 : Nat) "DigitChip$Processor" "status" "I") ∈ zT := zT_in b122 rfl
theorem b123 : (Jvm.Cond.fieldLink "DigitChip" (90 : Nat) "DigitChip$Processor" "status" "I") ∈ lw_tbl := zT_tb (List.mem_append_left (tables_1_2 ++ (tables_1_3 ++ tables_1_4)) (List.mem_of_getElem? (i := 123) rfl))
theorem q123 : (Jvm.Cond.fieldLink "DigitChip" (90 : Nat) "DigitChip$Processor" "status" "I") ∈ zT := zT_in b123 rfl
theorem b124 : (Jvm.Cond.fieldLink "DigitChip$Processor" (36 : Nat) "DigitChip$Processor" "carry" "Z") ∈ lw_tbl := zT_tb (List.mem_append_left (tables_1_2 ++ (tables_1_3 ++ tables_1_4)) (List.mem_of_getElem? (i := 124) rfl))
theorem q124 : (Jvm.Cond.fieldLink "DigitChip$Processor" (36 : Nat) "DigitChip$Processor" "carry" "Z") ∈ zT := zT_in b124 rfl
theorem b125 : (Jvm.Cond.fieldLink "DigitChip" (93 : Nat) "DigitChip$Processor" "carry" "Z") ∈ lw_tbl := zT_tb (List.mem_append_left (tables_1_2 ++ (tables_1_3 ++ tables_1_4)) (List.mem_of_getElem? (i := 125) rfl))
theorem q125 : (Jvm.Cond.fieldLink "DigitChip" (93 : Nat) "DigitChip$Processor" "carry" "Z") ∈ zT := zT_in b125 rfl
theorem b126 : (Jvm.Cond.fieldLink "DigitChip$Processor" (40 : Nat) "DigitChip$Processor" "place" "I") ∈ lw_tbl := zT_tb (List.mem_append_left (tables_1_2 ++ (tables_1_3 ++ tables_1_4)) (List.mem_of_getElem? (i := 126) rfl))
theorem q126 : (Jvm.Cond.fieldLink "DigitChip$Processor" (40 : Nat) "DigitChip$Processor" "place" "I") ∈ zT := zT_in b126 rfl
theorem b127 : (Jvm.Cond.fieldLink "DigitChip" (97 : Nat) "DigitChip$Processor" "place" "I") ∈ lw_tbl := zT_tb (List.mem_append_left (tables_1_2 ++ (tables_1_3 ++ tables_1_4)) (List.mem_of_getElem? (i := 127) rfl))
theorem q127 : (Jvm.Cond.fieldLink "DigitChip" (97 : Nat) "DigitChip$Processor" "place" "I") ∈ zT := zT_in b127 rfl
theorem b128 : (Jvm.Cond.fieldLink "DigitChip$Processor" (43 : Nat) "DigitChip$Processor" "back" "I") ∈ lw_tbl := zT_tb (List.mem_append_left (tables_1_2 ++ (tables_1_3 ++ tables_1_4)) (List.mem_of_getElem? (i := 128) rfl))
theorem q128 : (Jvm.Cond.fieldLink "DigitChip$Processor" (43 : Nat) "DigitChip$Processor" "back" "I") ∈ zT := zT_in b128 rfl
theorem b129 : (Jvm.Cond.fieldLink "DigitChip" (100 : Nat) "DigitChip$Processor" "back" "I") ∈ lw_tbl := zT_tb (List.mem_append_left (tables_1_2 ++ (tables_1_3 ++ tables_1_4)) (List.mem_of_getElem? (i := 129) rfl))
theorem q129 : (Jvm.Cond.fieldLink "DigitChip" (100 : Nat) "DigitChip$Processor" "back" "I") ∈ zT := zT_in b129 rfl
theorem b130 : (Jvm.Cond.fieldLink "DigitChip$Processor" (46 : Nat) "DigitChip$Processor" "ended" "Z") ∈ lw_tbl := zT_tb (List.mem_append_left (tables_1_2 ++ (tables_1_3 ++ tables_1_4)) (List.mem_of_getElem? (i := 130) rfl))
theorem q130 : (Jvm.Cond.fieldLink "DigitChip$Processor" (46 : Nat) "DigitChip$Processor" "ended" "Z") ∈ zT := zT_in b130 rfl
theorem b131 : (Jvm.Cond.laysFinal "DigitChip$Processor" "DigitChip$Processor" "memory" "[I") ∈ lw_tbl := zT_tb (List.mem_append_left (tables_1_2 ++ (tables_1_3 ++ tables_1_4)) (List.mem_of_getElem? (i := 131) rfl))
theorem q131 : (Jvm.Cond.laysFinal "DigitChip$Processor" "DigitChip$Processor" "memory" "[I") ∈ zT := zT_in b131 rfl
theorem b132 : (Jvm.Cond.soleField "DigitChip$Processor" "memory") ∈ lw_tbl := zT_tb (List.mem_append_left (tables_1_2 ++ (tables_1_3 ++ tables_1_4)) (List.mem_of_getElem? (i := 132) rfl))
theorem b133 : (Jvm.Cond.laysFinal "DigitChip$Processor" "DigitChip$Processor" "registers" "LDigitChip$Registers;") ∈ lw_tbl := zT_tb (List.mem_append_left (tables_1_2 ++ (tables_1_3 ++ tables_1_4)) (List.mem_of_getElem? (i := 133) rfl))
theorem q133 : (Jvm.Cond.laysFinal "DigitChip$Processor" "DigitChip$Processor" "registers" "LDigitChip$Registers;") ∈ zT := zT_in b133 rfl
theorem b134 : (Jvm.Cond.soleField "DigitChip$Processor" "registers") ∈ lw_tbl := zT_tb (List.mem_append_left (tables_1_2 ++ (tables_1_3 ++ tables_1_4)) (List.mem_of_getElem? (i := 134) rfl))
theorem b135 : (Jvm.Cond.laysFinal "DigitChip$Processor" "DigitChip$Processor" "waiting" "LDigitChip$Waiting;") ∈ lw_tbl := zT_tb (List.mem_append_left (tables_1_2 ++ (tables_1_3 ++ tables_1_4)) (List.mem_of_getElem? (i := 135) rfl))
theorem q135 : (Jvm.Cond.laysFinal "DigitChip$Processor" "DigitChip$Processor" "waiting" "LDigitChip$Waiting;") ∈ zT := zT_in b135 rfl
theorem b136 : (Jvm.Cond.soleField "DigitChip$Processor" "waiting") ∈ lw_tbl := zT_tb (List.mem_append_left (tables_1_2 ++ (tables_1_3 ++ tables_1_4)) (List.mem_of_getElem? (i := 136) rfl))
theorem b137 : (Jvm.Cond.lays "DigitChip$Processor" "DigitChip$Processor" "pointer" "I") ∈ lw_tbl := zT_tb (List.mem_append_left (tables_1_2 ++ (tables_1_3 ++ tables_1_4)) (List.mem_of_getElem? (i := 137) rfl))
theorem q137 : (Jvm.Cond.lays "DigitChip$Processor" "DigitChip$Processor" "pointer" "I") ∈ zT := zT_in b137 rfl
theorem b138 : (Jvm.Cond.soleField "DigitChip$Processor" "pointer") ∈ lw_tbl := zT_tb (List.mem_append_left (tables_1_2 ++ (tables_1_3 ++ tables_1_4)) (List.mem_of_getElem? (i := 138) rfl))
theorem b139 : (Jvm.Cond.lays "DigitChip$Processor" "DigitChip$Processor" "status" "I") ∈ lw_tbl := zT_tb (List.mem_append_left (tables_1_2 ++ (tables_1_3 ++ tables_1_4)) (List.mem_of_getElem? (i := 139) rfl))
theorem q139 : (Jvm.Cond.lays "DigitChip$Processor" "DigitChip$Processor" "status" "I") ∈ zT := zT_in b139 rfl
theorem b140 : (Jvm.Cond.soleField "DigitChip$Processor" "status") ∈ lw_tbl := zT_tb (List.mem_append_left (tables_1_2 ++ (tables_1_3 ++ tables_1_4)) (List.mem_of_getElem? (i := 140) rfl))
theorem b141 : (Jvm.Cond.lays "DigitChip$Processor" "DigitChip$Processor" "carry" "Z") ∈ lw_tbl := zT_tb (List.mem_append_left (tables_1_2 ++ (tables_1_3 ++ tables_1_4)) (List.mem_of_getElem? (i := 141) rfl))
theorem q141 : (Jvm.Cond.lays "DigitChip$Processor" "DigitChip$Processor" "carry" "Z") ∈ zT := zT_in b141 rfl
theorem b142 : (Jvm.Cond.soleField "DigitChip$Processor" "carry") ∈ lw_tbl := zT_tb (List.mem_append_left (tables_1_2 ++ (tables_1_3 ++ tables_1_4)) (List.mem_of_getElem? (i := 142) rfl))
theorem b143 : (Jvm.Cond.lays "DigitChip$Processor" "DigitChip$Processor" "place" "I") ∈ lw_tbl := zT_tb (List.mem_append_left (tables_1_2 ++ (tables_1_3 ++ tables_1_4)) (List.mem_of_getElem? (i := 143) rfl))
theorem q143 : (Jvm.Cond.lays "DigitChip$Processor" "DigitChip$Processor" "place" "I") ∈ zT := zT_in b143 rfl
theorem b144 : (Jvm.Cond.soleField "DigitChip$Processor" "place") ∈ lw_tbl := zT_tb (List.mem_append_left (tables_1_2 ++ (tables_1_3 ++ tables_1_4)) (List.mem_of_getElem? (i := 144) rfl))
theorem b145 : (Jvm.Cond.lays "DigitChip$Processor" "DigitChip$Processor" "back" "I") ∈ lw_tbl := zT_tb (List.mem_append_left (tables_1_2 ++ (tables_1_3 ++ tables_1_4)) (List.mem_of_getElem? (i := 145) rfl))
theorem q145 : (Jvm.Cond.lays "DigitChip$Processor" "DigitChip$Processor" "back" "I") ∈ zT := zT_in b145 rfl
theorem b146 : (Jvm.Cond.soleField "DigitChip$Processor" "back") ∈ lw_tbl := zT_tb (List.mem_append_left (tables_1_2 ++ (tables_1_3 ++ tables_1_4)) (List.mem_of_getElem? (i := 146) rfl))
theorem b147 : (Jvm.Cond.lays "DigitChip$Processor" "DigitChip$Processor" "ended" "Z") ∈ lw_tbl := zT_tb (List.mem_append_left (tables_1_2 ++ (tables_1_3 ++ tables_1_4)) (List.mem_of_getElem? (i := 147) rfl))
theorem q147 : (Jvm.Cond.lays "DigitChip$Processor" "DigitChip$Processor" "ended" "Z") ∈ zT := zT_in b147 rfl
theorem b148 : (Jvm.Cond.soleField "DigitChip$Processor" "ended") ∈ lw_tbl := zT_tb (List.mem_append_left (tables_1_2 ++ (tables_1_3 ++ tables_1_4)) (List.mem_of_getElem? (i := 148) rfl))
theorem b149 : (Jvm.Cond.superclass "DigitChip$Processor" "java/lang/Object") ∈ lw_tbl := zT_tb (List.mem_append_left (tables_1_2 ++ (tables_1_3 ++ tables_1_4)) (List.mem_of_getElem? (i := 149) rfl))
theorem b150 : (Jvm.Cond.fieldLink "DigitChip" (10 : Nat) "DigitChip" "assembler" "LDigitChip$Assembler;") ∈ lw_tbl := zT_tb (List.mem_append_left (tables_1_2 ++ (tables_1_3 ++ tables_1_4)) (List.mem_of_getElem? (i := 150) rfl))
theorem q150 : (Jvm.Cond.fieldLink "DigitChip" (10 : Nat) "DigitChip" "assembler" "LDigitChip$Assembler;") ∈ zT := zT_in b150 rfl
theorem b151 : (Jvm.Cond.fieldLink "DigitChip" (19 : Nat) "DigitChip" "processor" "LDigitChip$Processor;") ∈ lw_tbl := zT_tb (List.mem_append_left (tables_1_2 ++ (tables_1_3 ++ tables_1_4)) (List.mem_of_getElem? (i := 151) rfl))
theorem q151 : (Jvm.Cond.fieldLink "DigitChip" (19 : Nat) "DigitChip" "processor" "LDigitChip$Processor;") ∈ zT := zT_in b151 rfl
theorem b152 : (Jvm.Cond.laysFinal "DigitChip" "DigitChip" "assembler" "LDigitChip$Assembler;") ∈ lw_tbl := zT_tb (List.mem_append_left (tables_1_2 ++ (tables_1_3 ++ tables_1_4)) (List.mem_of_getElem? (i := 152) rfl))
theorem q152 : (Jvm.Cond.laysFinal "DigitChip" "DigitChip" "assembler" "LDigitChip$Assembler;") ∈ zT := zT_in b152 rfl
theorem b153 : (Jvm.Cond.soleField "DigitChip" "assembler") ∈ lw_tbl := zT_tb (List.mem_append_left (tables_1_2 ++ (tables_1_3 ++ tables_1_4)) (List.mem_of_getElem? (i := 153) rfl))
theorem b154 : (Jvm.Cond.laysFinal "DigitChip" "DigitChip" "processor" "LDigitChip$Processor;") ∈ lw_tbl := zT_tb (List.mem_append_left (tables_1_2 ++ (tables_1_3 ++ tables_1_4)) (List.mem_of_getElem? (i := 154) rfl))
theorem q154 : (Jvm.Cond.laysFinal "DigitChip" "DigitChip" "processor" "LDigitChip$Processor;") ∈ zT := zT_in b154 rfl
theorem b155 : (Jvm.Cond.soleField "DigitChip" "processor") ∈ lw_tbl := zT_tb (List.mem_append_left (tables_1_2 ++ (tables_1_3 ++ tables_1_4)) (List.mem_of_getElem? (i := 155) rfl))
theorem b156 : (Jvm.Cond.superclass "DigitChip" "java/lang/Object") ∈ lw_tbl := zT_tb (List.mem_append_left (tables_1_2 ++ (tables_1_3 ++ tables_1_4)) (List.mem_of_getElem? (i := 156) rfl))
theorem b157 : (Jvm.Cond.methodLink "DigitChipLaw" (23 : Nat) ({ cls := "DigitChip", name := "type", desc := "(C)Z" } : Jvm.MethodName)) ∈ lw_tbl := zT_tb (List.mem_append_left (tables_1_2 ++ (tables_1_3 ++ tables_1_4)) (List.mem_of_getElem? (i := 157) rfl))
theorem q157 : (Jvm.Cond.methodLink "DigitChipLaw" (23 : Nat) ({ cls := "DigitChip", name := "type", desc := "(C)Z" } : Jvm.MethodName)) ∈ zT := zT_in b157 rfl
theorem b158 : (Jvm.Cond.instanceMethod ({ cls := "DigitChip", name := "type", desc := "(C)Z" } : Jvm.MethodName)) ∈ lw_tbl := zT_tb (List.mem_append_left (tables_1_2 ++ (tables_1_3 ++ tables_1_4)) (List.mem_of_getElem? (i := 158) rfl))
theorem q158 : (Jvm.Cond.instanceMethod ({ cls := "DigitChip", name := "type", desc := "(C)Z" } : Jvm.MethodName)) ∈ zT := zT_in b158 rfl
theorem b159 : (Jvm.Cond.selects "DigitChip" ({ cls := "DigitChip", name := "type", desc := "(C)Z" } : Jvm.MethodName) ({ cls := "DigitChip", name := "type", desc := "(C)Z" } : Jvm.MethodName)) ∈ lw_tbl := zT_tb (List.mem_append_left (tables_1_2 ++ (tables_1_3 ++ tables_1_4)) (List.mem_of_getElem? (i := 159) rfl))
theorem q159 : (Jvm.Cond.selects "DigitChip" ({ cls := "DigitChip", name := "type", desc := "(C)Z" } : Jvm.MethodName) ({ cls := "DigitChip", name := "type", desc := "(C)Z" } : Jvm.MethodName)) ∈ zT := zT_in b159 rfl
theorem b160 : (Jvm.Cond.code ({ cls := "DigitChip", name := "type", desc := "(C)Z" } : Jvm.MethodName) prog_1_method_2_code (2 : Nat) (Option.some Jvm.ClassFile.FieldType.boolean)) ∈ lw_tbl := zT_tb (List.mem_append_left (tables_1_2 ++ (tables_1_3 ++ tables_1_4)) (List.mem_of_getElem? (i := 160) rfl))
theorem q160 : (Jvm.Cond.code ({ cls := "DigitChip", name := "type", desc := "(C)Z" } : Jvm.MethodName) prog_1_method_2_code (2 : Nat) (Option.some Jvm.ClassFile.FieldType.boolean)) ∈ zT := zT_in b160 rfl
theorem b161 : (Jvm.Cond.methodLink "DigitChip" (23 : Nat) ({ cls := "DigitChip$Assembler", name := "append", desc := "(C)Z" } : Jvm.MethodName)) ∈ lw_tbl := zT_tb (List.mem_append_left (tables_1_2 ++ (tables_1_3 ++ tables_1_4)) (List.mem_of_getElem? (i := 161) rfl))
theorem q161 : (Jvm.Cond.methodLink "DigitChip" (23 : Nat) ({ cls := "DigitChip$Assembler", name := "append", desc := "(C)Z" } : Jvm.MethodName)) ∈ zT := zT_in b161 rfl
theorem b162 : (Jvm.Cond.instanceMethod ({ cls := "DigitChip$Assembler", name := "append", desc := "(C)Z" } : Jvm.MethodName)) ∈ lw_tbl := zT_tb (List.mem_append_left (tables_1_2 ++ (tables_1_3 ++ tables_1_4)) (List.mem_of_getElem? (i := 162) rfl))
theorem q162 : (Jvm.Cond.instanceMethod ({ cls := "DigitChip$Assembler", name := "append", desc := "(C)Z" } : Jvm.MethodName)) ∈ zT := zT_in b162 rfl
theorem b163 : (Jvm.Cond.selects "DigitChip$Assembler" ({ cls := "DigitChip$Assembler", name := "append", desc := "(C)Z" } : Jvm.MethodName) ({ cls := "DigitChip$Assembler", name := "append", desc := "(C)Z" } : Jvm.MethodName)) ∈ lw_tbl := zT_tb (List.mem_append_left (tables_1_2 ++ (tables_1_3 ++ tables_1_4)) (List.mem_of_getElem? (i := 163) rfl))
theorem q163 : (Jvm.Cond.selects "DigitChip$Assembler" ({ cls := "DigitChip$Assembler", name := "append", desc := "(C)Z" } : Jvm.MethodName) ({ cls := "DigitChip$Assembler", name := "append", desc := "(C)Z" } : Jvm.MethodName)) ∈ zT := zT_in b163 rfl
theorem b164 : (Jvm.Cond.code ({ cls := "DigitChip$Assembler", name := "append", desc := "(C)Z" } : Jvm.MethodName) prog_2_method_2_code (2 : Nat) (Option.some Jvm.ClassFile.FieldType.boolean)) ∈ lw_tbl := zT_tb (List.mem_append_left (tables_1_2 ++ (tables_1_3 ++ tables_1_4)) (List.mem_of_getElem? (i := 164) rfl))
theorem q164 : (Jvm.Cond.code ({ cls := "DigitChip$Assembler", name := "append", desc := "(C)Z" } : Jvm.MethodName) prog_2_method_2_code (2 : Nat) (Option.some Jvm.ClassFile.FieldType.boolean)) ∈ zT := zT_in b164 rfl
theorem b165 : (Jvm.Cond.methodLink "DigitChipLaw" (37 : Nat) ({ cls := "DigitChip", name := "illAt", desc := "()I" } : Jvm.MethodName)) ∈ lw_tbl := zT_tb (List.mem_append_left (tables_1_2 ++ (tables_1_3 ++ tables_1_4)) (List.mem_of_getElem? (i := 165) rfl))
theorem q165 : (Jvm.Cond.methodLink "DigitChipLaw" (37 : Nat) ({ cls := "DigitChip", name := "illAt", desc := "()I" } : Jvm.MethodName)) ∈ zT := zT_in b165 rfl
theorem b166 : (Jvm.Cond.instanceMethod ({ cls := "DigitChip", name := "illAt", desc := "()I" } : Jvm.MethodName)) ∈ lw_tbl := zT_tb (List.mem_append_left (tables_1_2 ++ (tables_1_3 ++ tables_1_4)) (List.mem_of_getElem? (i := 166) rfl))
theorem q166 : (Jvm.Cond.instanceMethod ({ cls := "DigitChip", name := "illAt", desc := "()I" } : Jvm.MethodName)) ∈ zT := zT_in b166 rfl
theorem b167 : (Jvm.Cond.selects "DigitChip" ({ cls := "DigitChip", name := "illAt", desc := "()I" } : Jvm.MethodName) ({ cls := "DigitChip", name := "illAt", desc := "()I" } : Jvm.MethodName)) ∈ lw_tbl := zT_tb (List.mem_append_left (tables_1_2 ++ (tables_1_3 ++ tables_1_4)) (List.mem_of_getElem? (i := 167) rfl))
theorem q167 : (Jvm.Cond.selects "DigitChip" ({ cls := "DigitChip", name := "illAt", desc := "()I" } : Jvm.MethodName) ({ cls := "DigitChip", name := "illAt", desc := "()I" } : Jvm.MethodName)) ∈ zT := zT_in b167 rfl
theorem b168 : (Jvm.Cond.code ({ cls := "DigitChip", name := "illAt", desc := "()I" } : Jvm.MethodName) prog_1_method_4_code (1 : Nat) (Option.some Jvm.ClassFile.FieldType.int)) ∈ lw_tbl := zT_tb (List.mem_append_left (tables_1_2 ++ (tables_1_3 ++ tables_1_4)) (List.mem_of_getElem? (i := 168) rfl))
theorem q168 : (Jvm.Cond.code ({ cls := "DigitChip", name := "illAt", desc := "()I" } : Jvm.MethodName) prog_1_method_4_code (1 : Nat) (Option.some Jvm.ClassFile.FieldType.int)) ∈ zT := zT_in b168 rfl
theorem b169 : (Jvm.Cond.methodLink "DigitChipLaw" (41 : Nat) ({ cls := "DigitChip", name := "word", desc := "(I)I" } : Jvm.MethodName)) ∈ lw_tbl := zT_tb (List.mem_append_left (tables_1_2 ++ (tables_1_3 ++ tables_1_4)) (List.mem_of_getElem? (i := 169) rfl))
theorem q169 : (Jvm.Cond.methodLink "DigitChipLaw" (41 : Nat) ({ cls := "DigitChip", name := "word", desc := "(I)I" } : Jvm.MethodName)) ∈ zT := zT_in b169 rfl
theorem b170 : (Jvm.Cond.instanceMethod ({ cls := "DigitChip", name := "word", desc := "(I)I" } : Jvm.MethodName)) ∈ lw_tbl := zT_tb (List.mem_append_left (tables_1_2 ++ (tables_1_3 ++ tables_1_4)) (List.mem_of_getElem? (i := 170) rfl))
theorem q170 : (Jvm.Cond.instanceMethod ({ cls := "DigitChip", name := "word", desc := "(I)I" } : Jvm.MethodName)) ∈ zT := zT_in b170 rfl
theorem b171 : (Jvm.Cond.selects "DigitChip" ({ cls := "DigitChip", name := "word", desc := "(I)I" } : Jvm.MethodName) ({ cls := "DigitChip", name := "word", desc := "(I)I" } : Jvm.MethodName)) ∈ lw_tbl := zT_tb (List.mem_append_left (tables_1_2 ++ (tables_1_3 ++ tables_1_4)) (List.mem_of_getElem? (i := 171) rfl))
theorem q171 : (Jvm.Cond.selects "DigitChip" ({ cls := "DigitChip", name := "word", desc := "(I)I" } : Jvm.MethodName) ({ cls := "DigitChip", name := "word", desc := "(I)I" } : Jvm.MethodName)) ∈ zT := zT_in b171 rfl
theorem b172 : (Jvm.Cond.code ({ cls := "DigitChip", name := "word", desc := "(I)I" } : Jvm.MethodName) prog_1_method_5_code (2 : Nat) (Option.some Jvm.ClassFile.FieldType.int)) ∈ lw_tbl := zT_tb (List.mem_append_left (tables_1_2 ++ (tables_1_3 ++ tables_1_4)) (List.mem_of_getElem? (i := 172) rfl))
theorem q172 : (Jvm.Cond.code ({ cls := "DigitChip", name := "word", desc := "(I)I" } : Jvm.MethodName) prog_1_method_5_code (2 : Nat) (Option.some Jvm.ClassFile.FieldType.int)) ∈ zT := zT_in b172 rfl
theorem b173 : (Jvm.Cond.methodLink "DigitChip" (49 : Nat) ({ cls := "DigitChip", name := "isPlace", desc := "(I)Z" } : Jvm.MethodName)) ∈ lw_tbl := zT_tb (List.mem_append_left (tables_1_2 ++ (tables_1_3 ++ tables_1_4)) (List.mem_of_getElem? (i := 173) rfl))
theorem q173 : (Jvm.Cond.methodLink "DigitChip" (49 : Nat) ({ cls := "DigitChip", name := "isPlace", desc := "(I)Z" } : Jvm.MethodName)) ∈ zT := zT_in b173 rfl
theorem b174 : (Jvm.Cond.static ({ cls := "DigitChip", name := "isPlace", desc := "(I)Z" } : Jvm.MethodName)) ∈ lw_tbl := zT_tb (List.mem_append_left (tables_1_2 ++ (tables_1_3 ++ tables_1_4)) (List.mem_of_getElem? (i := 174) rfl))
theorem q174 : (Jvm.Cond.static ({ cls := "DigitChip", name := "isPlace", desc := "(I)Z" } : Jvm.MethodName)) ∈ zT := zT_in b174 rfl
theorem b175 : (Jvm.Cond.code ({ cls := "DigitChip", name := "isPlace", desc := "(I)Z" } : Jvm.MethodName) prog_1_method_15_code (1 : Nat) (Option.some Jvm.ClassFile.FieldType.boolean)) ∈ lw_tbl := zT_tb (List.mem_append_left (tables_1_2 ++ (tables_1_3 ++ tables_1_4)) (List.mem_of_getElem? (i := 175) rfl))
theorem q175 : (Jvm.Cond.code ({ cls := "DigitChip", name := "isPlace", desc := "(I)Z" } : Jvm.MethodName) prog_1_method_15_code (1 : Nat) (Option.some Jvm.ClassFile.FieldType.boolean)) ∈ zT := zT_in b175 rfl
theorem b176 : (Jvm.Cond.methodLink "DigitChipLaw" (45 : Nat) ({ cls := "DigitChip", name := "poke", desc := "(II)Z" } : Jvm.MethodName)) ∈ lw_tbl := zT_tb (List.mem_append_left (tables_1_2 ++ (tables_1_3 ++ tables_1_4)) (List.mem_of_getElem? (i := 176) rfl))
theorem q176 : (Jvm.Cond.methodLink "DigitChipLaw" (45 : Nat) ({ cls := "DigitChip", name := "poke", desc := "(II)Z" } : Jvm.MethodName)) ∈ zT := zT_in b176 rfl
theorem b177 : (Jvm.Cond.instanceMethod ({ cls := "DigitChip", name := "poke", desc := "(II)Z" } : Jvm.MethodName)) ∈ lw_tbl := zT_tb (List.mem_append_left (tables_1_2 ++ (tables_1_3 ++ tables_1_4)) (List.mem_of_getElem? (i := 177) rfl))
theorem q177 : (Jvm.Cond.instanceMethod ({ cls := "DigitChip", name := "poke", desc := "(II)Z" } : Jvm.MethodName)) ∈ zT := zT_in b177 rfl
theorem b178 : (Jvm.Cond.selects "DigitChip" ({ cls := "DigitChip", name := "poke", desc := "(II)Z" } : Jvm.MethodName) ({ cls := "DigitChip", name := "poke", desc := "(II)Z" } : Jvm.MethodName)) ∈ lw_tbl := zT_tb (List.mem_append_left (tables_1_2 ++ (tables_1_3 ++ tables_1_4)) (List.mem_of_getElem? (i := 178) rfl))
theorem q178 : (Jvm.Cond.selects "DigitChip" ({ cls := "DigitChip", name := "poke", desc := "(II)Z" } : Jvm.MethodName) ({ cls := "DigitChip", name := "poke", desc := "(II)Z" } : Jvm.MethodName)) ∈ zT := zT_in b178 rfl
theorem b179 : (Jvm.Cond.code ({ cls := "DigitChip", name := "poke", desc := "(II)Z" } : Jvm.MethodName) prog_1_method_6_code (3 : Nat) (Option.some Jvm.ClassFile.FieldType.boolean)) ∈ lw_tbl := zT_tb (List.mem_append_left (tables_1_2 ++ (tables_1_3 ++ tables_1_4)) (List.mem_of_getElem? (i := 179) rfl))
theorem q179 : (Jvm.Cond.code ({ cls := "DigitChip", name := "poke", desc := "(II)Z" } : Jvm.MethodName) prog_1_method_6_code (3 : Nat) (Option.some Jvm.ClassFile.FieldType.boolean)) ∈ zT := zT_in b179 rfl
theorem b180 : (Jvm.Cond.methodLink "DigitChipLaw" (50 : Nat) ({ cls := "DigitChip", name := "key", desc := "(I)Z" } : Jvm.MethodName)) ∈ lw_tbl := zT_tb (List.mem_append_left (tables_1_2 ++ (tables_1_3 ++ tables_1_4)) (List.mem_of_getElem? (i := 180) rfl))
theorem q180 : (Jvm.Cond.methodLink "DigitChipLaw" (50 : Nat) ({ cls := "DigitChip", name := "key", desc := "(I)Z" } : Jvm.MethodName)) ∈ zT := zT_in b180 rfl
theorem b181 : (Jvm.Cond.instanceMethod ({ cls := "DigitChip", name := "key", desc := "(I)Z" } : Jvm.MethodName)) ∈ lw_tbl := zT_tb (List.mem_append_left (tables_1_2 ++ (tables_1_3 ++ tables_1_4)) (List.mem_of_getElem? (i := 181) rfl))
theorem q181 : (Jvm.Cond.instanceMethod ({ cls := "DigitChip", name := "key", desc := "(I)Z" } : Jvm.MethodName)) ∈ zT := zT_in b181 rfl
theorem b182 : (Jvm.Cond.selects "DigitChip" ({ cls := "DigitChip", name := "key", desc := "(I)Z" } : Jvm.MethodName) ({ cls := "DigitChip", name := "key", desc := "(I)Z" } : Jvm.MethodName)) ∈ lw_tbl := zT_tb (List.mem_append_left (tables_1_2 ++ (tables_1_3 ++ tables_1_4)) (List.mem_of_getElem? (i := 182) rfl))
theorem q182 : (Jvm.Cond.selects "DigitChip" ({ cls := "DigitChip", name := "key", desc := "(I)Z" } : Jvm.MethodName) ({ cls := "DigitChip", name := "key", desc := "(I)Z" } : Jvm.MethodName)) ∈ zT := zT_in b182 rfl
theorem b183 : (Jvm.Cond.code ({ cls := "DigitChip", name := "key", desc := "(I)Z" } : Jvm.MethodName) prog_1_method_7_code (2 : Nat) (Option.some Jvm.ClassFile.FieldType.boolean)) ∈ lw_tbl := zT_tb (List.mem_append_left (tables_1_2 ++ (tables_1_3 ++ tables_1_4)) (List.mem_of_getElem? (i := 183) rfl))
theorem q183 : (Jvm.Cond.code ({ cls := "DigitChip", name := "key", desc := "(I)Z" } : Jvm.MethodName) prog_1_method_7_code (2 : Nat) (Option.some Jvm.ClassFile.FieldType.boolean)) ∈ zT := zT_in b183 rfl
theorem b184 : (Jvm.Cond.methodLink "DigitChip" (60 : Nat) ({ cls := "DigitChip$Waiting", name := "append", desc := "(I)Z" } : Jvm.MethodName)) ∈ lw_tbl := zT_tb (List.mem_append_left (tables_1_2 ++ (tables_1_3 ++ tables_1_4)) (List.mem_of_getElem? (i := 184) rfl))
theorem q184 : (Jvm.Cond.methodLink "DigitChip" (60 : Nat) ({ cls := "DigitChip$Waiting", name := "append", desc := "(I)Z" } : Jvm.MethodName)) ∈ zT := zT_in b184 rfl
theorem b185 : (Jvm.Cond.instanceMethod ({ cls := "DigitChip$Waiting", name := "append", desc := "(I)Z" } : Jvm.MethodName)) ∈ lw_tbl := zT_tb (List.mem_append_left (tables_1_2 ++ (tables_1_3 ++ tables_1_4)) (List.mem_of_getElem? (i := 185) rfl))
theorem q185 : (Jvm.Cond.instanceMethod ({ cls := "DigitChip$Waiting", name := "append", desc := "(I)Z" } : Jvm.MethodName)) ∈ zT := zT_in b185 rfl
theorem b186 : (Jvm.Cond.selects "DigitChip$Waiting" ({ cls := "DigitChip$Waiting", name := "append", desc := "(I)Z" } : Jvm.MethodName) ({ cls := "DigitChip$Waiting", name := "append", desc := "(I)Z" } : Jvm.MethodName)) ∈ lw_tbl := zT_tb (List.mem_append_left (tables_1_2 ++ (tables_1_3 ++ tables_1_4)) (List.mem_of_getElem? (i := 186) rfl))
theorem q186 : (Jvm.Cond.selects "DigitChip$Waiting" ({ cls := "DigitChip$Waiting", name := "append", desc := "(I)Z" } : Jvm.MethodName) ({ cls := "DigitChip$Waiting", name := "append", desc := "(I)Z" } : Jvm.MethodName)) ∈ zT := zT_in b186 rfl
theorem b187 : (Jvm.Cond.code ({ cls := "DigitChip$Waiting", name := "append", desc := "(I)Z" } : Jvm.MethodName) prog_5_method_2_code (2 : Nat) (Option.some Jvm.ClassFile.FieldType.boolean)) ∈ lw_tbl := zT_tb (List.mem_append_left (tables_1_2 ++ (tables_1_3 ++ tables_1_4)) (List.mem_of_getElem? (i := 187) rfl))
theorem q187 : (Jvm.Cond.code ({ cls := "DigitChip$Waiting", name := "append", desc := "(I)Z" } : Jvm.MethodName) prog_5_method_2_code (2 : Nat) (Option.some Jvm.ClassFile.FieldType.boolean)) ∈ zT := zT_in b187 rfl
theorem b188 : (Jvm.Cond.methodLink "DigitChipLaw" (55 : Nat) ({ cls := "DigitChip", name := "keys", desc := "()I" } : Jvm.MethodName)) ∈ lw_tbl := zT_tb (List.mem_append_left (tables_1_2 ++ (tables_1_3 ++ tables_1_4)) (List.mem_of_getElem? (i := 188) rfl))
theorem q188 : (Jvm.Cond.methodLink "DigitChipLaw" (55 : Nat) ({ cls := "DigitChip", name := "keys", desc := "()I" } : Jvm.MethodName)) ∈ zT := zT_in b188 rfl
theorem b189 : (Jvm.Cond.instanceMethod ({ cls := "DigitChip", name := "keys", desc := "()I" } : Jvm.MethodName)) ∈ lw_tbl := zT_tb (List.mem_append_left (tables_1_2 ++ (tables_1_3 ++ tables_1_4)) (List.mem_of_getElem? (i := 189) rfl))
theorem q189 : (Jvm.Cond.instanceMethod ({ cls := "DigitChip", name := "keys", desc := "()I" } : Jvm.MethodName)) ∈ zT := zT_in b189 rfl
theorem b190 : (Jvm.Cond.selects "DigitChip" ({ cls := "DigitChip", name := "keys", desc := "()I" } : Jvm.MethodName) ({ cls := "DigitChip", name := "keys", desc := "()I" } : Jvm.MethodName)) ∈ lw_tbl := zT_tb (List.mem_append_left (tables_1_2 ++ (tables_1_3 ++ tables_1_4)) (List.mem_of_getElem? (i := 190) rfl))
theorem q190 : (Jvm.Cond.selects "DigitChip" ({ cls := "DigitChip", name := "keys", desc := "()I" } : Jvm.MethodName) ({ cls := "DigitChip", name := "keys", desc := "()I" } : Jvm.MethodName)) ∈ zT := zT_in b190 rfl
theorem b191 : (Jvm.Cond.code ({ cls := "DigitChip", name := "keys", desc := "()I" } : Jvm.MethodName) prog_1_method_8_code (1 : Nat) (Option.some Jvm.ClassFile.FieldType.int)) ∈ lw_tbl := zT_tb (List.mem_append_left (tables_1_2 ++ (tables_1_3 ++ tables_1_4)) (List.mem_of_getElem? (i := 191) rfl))
theorem q191 : (Jvm.Cond.code ({ cls := "DigitChip", name := "keys", desc := "()I" } : Jvm.MethodName) prog_1_method_8_code (1 : Nat) (Option.some Jvm.ClassFile.FieldType.int)) ∈ zT := zT_in b191 rfl
theorem b192 : (Jvm.Cond.methodLink "DigitChipLaw" (63 : Nat) ({ cls := "DigitChip", name := "value", desc := "(I)J" } : Jvm.MethodName)) ∈ lw_tbl := zT_tb (List.mem_append_left (tables_1_2 ++ (tables_1_3 ++ tables_1_4)) (List.mem_of_getElem? (i := 192) rfl))
theorem q192 : (Jvm.Cond.methodLink "DigitChipLaw" (63 : Nat) ({ cls := "DigitChip", name := "value", desc := "(I)J" } : Jvm.MethodName)) ∈ zT := zT_in b192 rfl
theorem b193 : (Jvm.Cond.instanceMethod ({ cls := "DigitChip", name := "value", desc := "(I)J" } : Jvm.MethodName)) ∈ lw_tbl := zT_tb (List.mem_append_left (tables_1_2 ++ (tables_1_3 ++ tables_1_4)) (List.mem_of_getElem? (i := 193) rfl))
theorem q193 : (Jvm.Cond.instanceMethod ({ cls := "DigitChip", name := "value", desc := "(I)J" } : Jvm.MethodName)) ∈ zT := zT_in b193 rfl
theorem b194 : (Jvm.Cond.selects "DigitChip" ({ cls := "DigitChip", name := "value", desc := "(I)J" } : Jvm.MethodName) ({ cls := "DigitChip", name := "value", desc := "(I)J" } : Jvm.MethodName)) ∈ lw_tbl := zT_tb (List.mem_append_left (tables_1_2 ++ (tables_1_3 ++ tables_1_4)) (List.mem_of_getElem? (i := 194) rfl))
theorem q194 : (Jvm.Cond.selects "DigitChip" ({ cls := "DigitChip", name := "value", desc := "(I)J" } : Jvm.MethodName) ({ cls := "DigitChip", name := "value", desc := "(I)J" } : Jvm.MethodName)) ∈ zT := zT_in b194 rfl
theorem b195 : (Jvm.Cond.code ({ cls := "DigitChip", name := "value", desc := "(I)J" } : Jvm.MethodName) prog_1_method_10_code (2 : Nat) (Option.some Jvm.ClassFile.FieldType.long)) ∈ lw_tbl := zT_tb (List.mem_append_left (tables_1_2 ++ (tables_1_3 ++ tables_1_4)) (List.mem_of_getElem? (i := 195) rfl))
theorem q195 : (Jvm.Cond.code ({ cls := "DigitChip", name := "value", desc := "(I)J" } : Jvm.MethodName) prog_1_method_10_code (2 : Nat) (Option.some Jvm.ClassFile.FieldType.long)) ∈ zT := zT_in b195 rfl
theorem b196 : (Jvm.Cond.methodLink "DigitChip" (69 : Nat) ({ cls := "DigitChip", name := "isRegister", desc := "(I)Z" } : Jvm.MethodName)) ∈ lw_tbl := zT_tb (List.mem_append_left (tables_1_2 ++ (tables_1_3 ++ tables_1_4)) (List.mem_of_getElem? (i := 196) rfl))
theorem q196 : (Jvm.Cond.methodLink "DigitChip" (69 : Nat) ({ cls := "DigitChip", name := "isRegister", desc := "(I)Z" } : Jvm.MethodName)) ∈ zT := zT_in b196 rfl
theorem b197 : (Jvm.Cond.static ({ cls := "DigitChip", name := "isRegister", desc := "(I)Z" } : Jvm.MethodName)) ∈ lw_tbl := zT_tb (List.mem_append_left (tables_1_2 ++ (tables_1_3 ++ tables_1_4)) (List.mem_of_getElem? (i := 197) rfl))
theorem q197 : (Jvm.Cond.static ({ cls := "DigitChip", name := "isRegister", desc := "(I)Z" } : Jvm.MethodName)) ∈ zT := zT_in b197 rfl
theorem b198 : (Jvm.Cond.code ({ cls := "DigitChip", name := "isRegister", desc := "(I)Z" } : Jvm.MethodName) prog_1_method_16_code (1 : Nat) (Option.some Jvm.ClassFile.FieldType.boolean)) ∈ lw_tbl := zT_tb (List.mem_append_left (tables_1_2 ++ (tables_1_3 ++ tables_1_4)) (List.mem_of_getElem? (i := 198) rfl))
theorem q198 : (Jvm.Cond.code ({ cls := "DigitChip", name := "isRegister", desc := "(I)Z" } : Jvm.MethodName) prog_1_method_16_code (1 : Nat) (Option.some Jvm.ClassFile.FieldType.boolean)) ∈ zT := zT_in b198 rfl
theorem b199 : (Jvm.Cond.constantLong "DigitChip" (82 : Nat) (-1 : Int64)) ∈ lw_tbl := zT_tb (List.mem_append_left (tables_1_2 ++ (tables_1_3 ++ tables_1_4)) (List.mem_of_getElem? (i := 199) rfl))
theorem q199 : (Jvm.Cond.constantLong "DigitChip" (82 : Nat) (-1 : Int64)) ∈ zT := zT_in b199 rfl
theorem b200 : (Jvm.Cond.methodLink "DigitChipLaw" (70 : Nat) ({ cls := "DigitChip", name := "set", desc := "(IJ)Z" } : Jvm.MethodName)) ∈ lw_tbl := zT_tb (List.mem_append_left (tables_1_2 ++ (tables_1_3 ++ tables_1_4)) (List.mem_of_getElem? (i := 200) rfl))
theorem q200 : (Jvm.Cond.methodLink "DigitChipLaw" (70 : Nat) ({ cls := "DigitChip", name := "set", desc := "(IJ)Z" } : Jvm.MethodName)) ∈ zT := zT_in b200 rfl
theorem b201 : (Jvm.Cond.instanceMethod ({ cls := "DigitChip", name := "set", desc := "(IJ)Z" } : Jvm.MethodName)) ∈ lw_tbl := zT_tb (List.mem_append_left (tables_1_2 ++ (tables_1_3 ++ tables_1_4)) (List.mem_of_getElem? (i := 201) rfl))
theorem q201 : (Jvm.Cond.instanceMethod ({ cls := "DigitChip", name := "set", desc := "(IJ)Z" } : Jvm.MethodName)) ∈ zT := zT_in b201 rfl
theorem b202 : (Jvm.Cond.selects "DigitChip" ({ cls := "DigitChip", name := "set", desc := "(IJ)Z" } : Jvm.MethodName) ({ cls := "DigitChip", name := "set", desc := "(IJ)Z" } : Jvm.MethodName)) ∈ lw_tbl := zT_tb (List.mem_append_left (tables_1_2 ++ (tables_1_3 ++ tables_1_4)) (List.mem_of_getElem? (i := 202) rfl))
theorem q202 : (Jvm.Cond.selects "DigitChip" ({ cls := "DigitChip", name := "set", desc := "(IJ)Z" } : Jvm.MethodName) ({ cls := "DigitChip", name := "set", desc := "(IJ)Z" } : Jvm.MethodName)) ∈ zT := zT_in b202 rfl
theorem b203 : (Jvm.Cond.code ({ cls := "DigitChip", name := "set", desc := "(IJ)Z" } : Jvm.MethodName) prog_1_method_11_code (4 : Nat) (Option.some Jvm.ClassFile.FieldType.boolean)) ∈ lw_tbl := zT_tb (List.mem_append_left (tables_1_2 ++ (tables_1_3 ++ tables_1_4)) (List.mem_of_getElem? (i := 203) rfl))
theorem q203 : (Jvm.Cond.code ({ cls := "DigitChip", name := "set", desc := "(IJ)Z" } : Jvm.MethodName) prog_1_method_11_code (4 : Nat) (Option.some Jvm.ClassFile.FieldType.boolean)) ∈ zT := zT_in b203 rfl
theorem b204 : (Jvm.Cond.fieldLink "DigitChip" (84 : Nat) "DigitChip$Registers" "TENS" "[J") ∈ lw_tbl := zT_tb (List.mem_append_left (tables_1_2 ++ (tables_1_3 ++ tables_1_4)) (List.mem_of_getElem? (i := 204) rfl))
theorem q204 : (Jvm.Cond.fieldLink "DigitChip" (84 : Nat) "DigitChip$Registers" "TENS" "[J") ∈ zT := zT_in b204 rfl
theorem b205 : (Jvm.Cond.laysStatic "DigitChip$Registers" "TENS" "[J") ∈ lw_tbl := zT_tb (List.mem_append_left (tables_1_2 ++ (tables_1_3 ++ tables_1_4)) (List.mem_of_getElem? (i := 205) rfl))
theorem b206 : (Jvm.Cond.methodLink "DigitChipLaw" (75 : Nat) ({ cls := "DigitChip", name := "state", desc := "(I)I" } : Jvm.MethodName)) ∈ lw_tbl := zT_tb (List.mem_append_left (tables_1_2 ++ (tables_1_3 ++ tables_1_4)) (List.mem_of_getElem? (i := 206) rfl))
theorem q206 : (Jvm.Cond.methodLink "DigitChipLaw" (75 : Nat) ({ cls := "DigitChip", name := "state", desc := "(I)I" } : Jvm.MethodName)) ∈ zT := zT_in b206 rfl
theorem b207 : (Jvm.Cond.instanceMethod ({ cls := "DigitChip", name := "state", desc := "(I)I" } : Jvm.MethodName)) ∈ lw_tbl := zT_tb (List.mem_append_left (tables_1_2 ++ (tables_1_3 ++ tables_1_4)) (List.mem_of_getElem? (i := 207) rfl))
theorem q207 : (Jvm.Cond.instanceMethod ({ cls := "DigitChip", name := "state", desc := "(I)I" } : Jvm.MethodName)) ∈ zT := zT_in b207 rfl
theorem b208 : (Jvm.Cond.selects "DigitChip" ({ cls := "DigitChip", name := "state", desc := "(I)I" } : Jvm.MethodName) ({ cls := "DigitChip", name := "state", desc := "(I)I" } : Jvm.MethodName)) ∈ lw_tbl := zT_tb (List.mem_append_left (tables_1_2 ++ (tables_1_3 ++ tables_1_4)) (List.mem_of_getElem? (i := 208) rfl))
theorem q208 : (Jvm.Cond.selects "DigitChip" ({ cls := "DigitChip", name := "state", desc := "(I)I" } : Jvm.MethodName) ({ cls := "DigitChip", name := "state", desc := "(I)I" } : Jvm.MethodName)) ∈ zT := zT_in b208 rfl
theorem b209 : (Jvm.Cond.code ({ cls := "DigitChip", name := "state", desc := "(I)I" } : Jvm.MethodName) prog_1_method_12_code (2 : Nat) (Option.some Jvm.ClassFile.FieldType.int)) ∈ lw_tbl := zT_tb (List.mem_append_left (tables_1_2 ++ (tables_1_3 ++ tables_1_4)) (List.mem_of_getElem? (i := 209) rfl))
theorem q209 : (Jvm.Cond.code ({ cls := "DigitChip", name := "state", desc := "(I)I" } : Jvm.MethodName) prog_1_method_12_code (2 : Nat) (Option.some Jvm.ClassFile.FieldType.int)) ∈ zT := zT_in b209 rfl
theorem b210 : (Jvm.Cond.methodLink "DigitChipLaw" (79 : Nat) ({ cls := "DigitChip", name := "go", desc := "(I)Z" } : Jvm.MethodName)) ∈ lw_tbl := zT_tb (List.mem_append_left (tables_1_2 ++ (tables_1_3 ++ tables_1_4)) (List.mem_of_getElem? (i := 210) rfl))
theorem q210 : (Jvm.Cond.methodLink "DigitChipLaw" (79 : Nat) ({ cls := "DigitChip", name := "go", desc := "(I)Z" } : Jvm.MethodName)) ∈ zT := zT_in b210 rfl
theorem b211 : (Jvm.Cond.instanceMethod ({ cls := "DigitChip", name := "go", desc := "(I)Z" } : Jvm.MethodName)) ∈ lw_tbl := zT_tb (List.mem_append_left (tables_1_2 ++ (tables_1_3 ++ tables_1_4)) (List.mem_of_getElem? (i := 211) rfl))
theorem q211 : (Jvm.Cond.instanceMethod ({ cls := "DigitChip", name := "go", desc := "(I)Z" } : Jvm.MethodName)) ∈ zT := zT_in b211 rfl
theorem b212 : (Jvm.Cond.selects "DigitChip" ({ cls := "DigitChip", name := "go", desc := "(I)Z" } : Jvm.MethodName) ({ cls := "DigitChip", name := "go", desc := "(I)Z" } : Jvm.MethodName)) ∈ lw_tbl := zT_tb (List.mem_append_left (tables_1_2 ++ (tables_1_3 ++ tables_1_4)) (List.mem_of_getElem? (i := 212) rfl))
theorem q212 : (Jvm.Cond.selects "DigitChip" ({ cls := "DigitChip", name := "go", desc := "(I)Z" } : Jvm.MethodName) ({ cls := "DigitChip", name := "go", desc := "(I)Z" } : Jvm.MethodName)) ∈ zT := zT_in b212 rfl
theorem b213 : (Jvm.Cond.code ({ cls := "DigitChip", name := "go", desc := "(I)Z" } : Jvm.MethodName) prog_1_method_13_code (2 : Nat) (Option.some Jvm.ClassFile.FieldType.boolean)) ∈ lw_tbl := zT_tb (List.mem_append_left (tables_1_2 ++ (tables_1_3 ++ tables_1_4)) (List.mem_of_getElem? (i := 213) rfl))
theorem q213 : (Jvm.Cond.code ({ cls := "DigitChip", name := "go", desc := "(I)Z" } : Jvm.MethodName) prog_1_method_13_code (2 : Nat) (Option.some Jvm.ClassFile.FieldType.boolean)) ∈ zT := zT_in b213 rfl
theorem b214 : (Jvm.Cond.methodLink "DigitChipLaw" (83 : Nat) ({ cls := "DigitChip", name := "display", desc := "(I)I" } : Jvm.MethodName)) ∈ lw_tbl := zT_tb (List.mem_append_left (tables_1_2 ++ (tables_1_3 ++ tables_1_4)) (List.mem_of_getElem? (i := 214) rfl))
theorem q214 : (Jvm.Cond.methodLink "DigitChipLaw" (83 : Nat) ({ cls := "DigitChip", name := "display", desc := "(I)I" } : Jvm.MethodName)) ∈ zT := zT_in b214 rfl
theorem b215 : (Jvm.Cond.instanceMethod ({ cls := "DigitChip", name := "display", desc := "(I)I" } : Jvm.MethodName)) ∈ lw_tbl := zT_tb (List.mem_append_left (tables_1_2 ++ (tables_1_3 ++ tables_1_4)) (List.mem_of_getElem? (i := 215) rfl))
theorem q215 : (Jvm.Cond.instanceMethod ({ cls := "DigitChip", name := "display", desc := "(I)I" } : Jvm.MethodName)) ∈ zT := zT_in b215 rfl
theorem b216 : (Jvm.Cond.selects "DigitChip" ({ cls := "DigitChip", name := "display", desc := "(I)I" } : Jvm.MethodName) ({ cls := "DigitChip", name := "display", desc := "(I)I" } : Jvm.MethodName)) ∈ lw_tbl := zT_tb (List.mem_append_left (tables_1_2 ++ (tables_1_3 ++ tables_1_4)) (List.mem_of_getElem? (i := 216) rfl))
theorem q216 : (Jvm.Cond.selects "DigitChip" ({ cls := "DigitChip", name := "display", desc := "(I)I" } : Jvm.MethodName) ({ cls := "DigitChip", name := "display", desc := "(I)I" } : Jvm.MethodName)) ∈ zT := zT_in b216 rfl
theorem b217 : (Jvm.Cond.code ({ cls := "DigitChip", name := "display", desc := "(I)I" } : Jvm.MethodName) prog_1_method_14_code (2 : Nat) (Option.some Jvm.ClassFile.FieldType.int)) ∈ lw_tbl := zT_tb (List.mem_append_left (tables_1_2 ++ (tables_1_3 ++ tables_1_4)) (List.mem_of_getElem? (i := 217) rfl))
theorem q217 : (Jvm.Cond.code ({ cls := "DigitChip", name := "display", desc := "(I)I" } : Jvm.MethodName) prog_1_method_14_code (2 : Nat) (Option.some Jvm.ClassFile.FieldType.int)) ∈ zT := zT_in b217 rfl
theorem b218 : (Jvm.Cond.methodLink "DigitChip" (103 : Nat) ({ cls := "DigitChip", name := "digitBeforePoint", desc := "()I" } : Jvm.MethodName)) ∈ lw_tbl := zT_tb (List.mem_append_left (tables_1_2 ++ (tables_1_3 ++ tables_1_4)) (List.mem_of_getElem? (i := 218) rfl))
theorem q218 : (Jvm.Cond.methodLink "DigitChip" (103 : Nat) ({ cls := "DigitChip", name := "digitBeforePoint", desc := "()I" } : Jvm.MethodName)) ∈ zT := zT_in b218 rfl
theorem b219 : (Jvm.Cond.privateMethod ({ cls := "DigitChip", name := "digitBeforePoint", desc := "()I" } : Jvm.MethodName)) ∈ lw_tbl := zT_tb (List.mem_append_left (tables_1_2 ++ (tables_1_3 ++ tables_1_4)) (List.mem_of_getElem? (i := 219) rfl))
theorem b220 : (Jvm.Cond.instanceMethod ({ cls := "DigitChip", name := "digitBeforePoint", desc := "()I" } : Jvm.MethodName)) ∈ lw_tbl := zT_tb (List.mem_append_left (tables_1_2 ++ (tables_1_3 ++ tables_1_4)) (List.mem_of_getElem? (i := 220) rfl))
theorem q220 : (Jvm.Cond.instanceMethod ({ cls := "DigitChip", name := "digitBeforePoint", desc := "()I" } : Jvm.MethodName)) ∈ zT := zT_in b220 rfl
theorem b221 : (Jvm.Cond.code ({ cls := "DigitChip", name := "digitBeforePoint", desc := "()I" } : Jvm.MethodName) prog_1_method_18_code (2 : Nat) (Option.some Jvm.ClassFile.FieldType.int)) ∈ lw_tbl := zT_tb (List.mem_append_left (tables_1_2 ++ (tables_1_3 ++ tables_1_4)) (List.mem_of_getElem? (i := 221) rfl))
theorem q221 : (Jvm.Cond.code ({ cls := "DigitChip", name := "digitBeforePoint", desc := "()I" } : Jvm.MethodName) prog_1_method_18_code (2 : Nat) (Option.some Jvm.ClassFile.FieldType.int)) ∈ zT := zT_in b221 rfl
theorem b222 : (Jvm.Cond.methodLink "DigitChip" (110 : Nat) ({ cls := "DigitChip$Registers", name := "digit", desc := "(II)I" } : Jvm.MethodName)) ∈ lw_tbl := zT_tb (List.mem_append_left (tables_1_2 ++ (tables_1_3 ++ tables_1_4)) (List.mem_of_getElem? (i := 222) rfl))
theorem q222 : (Jvm.Cond.methodLink "DigitChip" (110 : Nat) ({ cls := "DigitChip$Registers", name := "digit", desc := "(II)I" } : Jvm.MethodName)) ∈ zT := zT_in b222 rfl
theorem b223 : (Jvm.Cond.instanceMethod ({ cls := "DigitChip$Registers", name := "digit", desc := "(II)I" } : Jvm.MethodName)) ∈ lw_tbl := zT_tb (List.mem_append_left (tables_1_2 ++ (tables_1_3 ++ tables_1_4)) (List.mem_of_getElem? (i := 223) rfl))
theorem q223 : (Jvm.Cond.instanceMethod ({ cls := "DigitChip$Registers", name := "digit", desc := "(II)I" } : Jvm.MethodName)) ∈ zT := zT_in b223 rfl
theorem b224 : (Jvm.Cond.selects "DigitChip$Registers" ({ cls := "DigitChip$Registers", name := "digit", desc := "(II)I" } : Jvm.MethodName) ({ cls := "DigitChip$Registers", name := "digit", desc := "(II)I" } : Jvm.MethodName)) ∈ lw_tbl := zT_tb (List.mem_append_left (tables_1_2 ++ (tables_1_3 ++ tables_1_4)) (List.mem_of_getElem? (i := 224) rfl))
theorem q224 : (Jvm.Cond.selects "DigitChip$Registers" ({ cls := "DigitChip$Registers", name := "digit", desc := "(II)I" } : Jvm.MethodName) ({ cls := "DigitChip$Registers", name := "digit", desc := "(II)I" } : Jvm.MethodName)) ∈ zT := zT_in b224 rfl
theorem b225 : (Jvm.Cond.code ({ cls := "DigitChip$Registers", name := "digit", desc := "(II)I" } : Jvm.MethodName) prog_4_method_2_code (3 : Nat) (Option.some Jvm.ClassFile.FieldType.int)) ∈ lw_tbl := zT_tb (List.mem_append_left (tables_1_2 ++ (tables_1_3 ++ tables_1_4)) (List.mem_of_getElem? (i := 225) rfl))
theorem q225 : (Jvm.Cond.code ({ cls := "DigitChip$Registers", name := "digit", desc := "(II)I" } : Jvm.MethodName) prog_4_method_2_code (3 : Nat) (Option.some Jvm.ClassFile.FieldType.int)) ∈ zT := zT_in b225 rfl
theorem b226 : (Jvm.Cond.fieldLink "DigitChip$Registers" (22 : Nat) "DigitChip$Registers" "TENS" "[J") ∈ lw_tbl := zT_tb (List.mem_append_left (tables_1_2 ++ (tables_1_3 ++ tables_1_4)) (List.mem_of_getElem? (i := 226) rfl))
theorem q226 : (Jvm.Cond.fieldLink "DigitChip$Registers" (22 : Nat) "DigitChip$Registers" "TENS" "[J") ∈ zT := zT_in b226 rfl
theorem b227 : (Jvm.Cond.constantLong "DigitChip$Registers" (25 : Nat) (10 : Int64)) ∈ lw_tbl := zT_tb (List.mem_append_left (tables_1_2 ++ (tables_1_3 ++ tables_1_4)) (List.mem_of_getElem? (i := 227) rfl))
theorem q227 : (Jvm.Cond.constantLong "DigitChip$Registers" (25 : Nat) (10 : Int64)) ∈ zT := zT_in b227 rfl
theorem b228 : (Jvm.Cond.methodLink "DigitChip" (107 : Nat) ({ cls := "DigitChip", name := "codeOfDigit", desc := "(I)I" } : Jvm.MethodName)) ∈ lw_tbl := zT_tb (List.mem_append_left (tables_1_2 ++ (tables_1_3 ++ tables_1_4)) (List.mem_of_getElem? (i := 228) rfl))
theorem q228 : (Jvm.Cond.methodLink "DigitChip" (107 : Nat) ({ cls := "DigitChip", name := "codeOfDigit", desc := "(I)I" } : Jvm.MethodName)) ∈ zT := zT_in b228 rfl
theorem b229 : (Jvm.Cond.privateMethod ({ cls := "DigitChip", name := "codeOfDigit", desc := "(I)I" } : Jvm.MethodName)) ∈ lw_tbl := zT_tb (List.mem_append_left (tables_1_2 ++ (tables_1_3 ++ tables_1_4)) (List.mem_of_getElem? (i := 229) rfl))
theorem b230 : (Jvm.Cond.instanceMethod ({ cls := "DigitChip", name := "codeOfDigit", desc := "(I)I" } : Jvm.MethodName)) ∈ lw_tbl := zT_tb (List.mem_append_left (tables_1_2 ++ (tables_1_3 ++ tables_1_4)) (List.mem_of_getElem? (i := 230) rfl))
theorem q230 : (Jvm.Cond.instanceMethod ({ cls := "DigitChip", name := "codeOfDigit", desc := "(I)I" } : Jvm.MethodName)) ∈ zT := zT_in b230 rfl
theorem b231 : (Jvm.Cond.code ({ cls := "DigitChip", name := "codeOfDigit", desc := "(I)I" } : Jvm.MethodName) prog_1_method_17_code (3 : Nat) (Option.some Jvm.ClassFile.FieldType.int)) ∈ lw_tbl := zT_tb (List.mem_append_left (tables_1_2 ++ (tables_1_3 ++ tables_1_4)) (List.mem_of_getElem? (i := 231) rfl))
theorem q231 : (Jvm.Cond.code ({ cls := "DigitChip", name := "codeOfDigit", desc := "(I)I" } : Jvm.MethodName) prog_1_method_17_code (3 : Nat) (Option.some Jvm.ClassFile.FieldType.int)) ∈ zT := zT_in b231 rfl
theorem b232 : (Jvm.Cond.methodLink "DigitChipLaw" (28 : Nat) ({ cls := "DigitChipLaw", name := "assemble", desc := "(LDigitChip;[J)I" } : Jvm.MethodName)) ∈ lw_tbl := zT_tb (List.mem_append_left (tables_1_2 ++ (tables_1_3 ++ tables_1_4)) (List.mem_of_getElem? (i := 232) rfl))
theorem q232 : (Jvm.Cond.methodLink "DigitChipLaw" (28 : Nat) ({ cls := "DigitChipLaw", name := "assemble", desc := "(LDigitChip;[J)I" } : Jvm.MethodName)) ∈ zT := zT_in b232 rfl
theorem b233 : (Jvm.Cond.static ({ cls := "DigitChipLaw", name := "assemble", desc := "(LDigitChip;[J)I" } : Jvm.MethodName)) ∈ lw_tbl := zT_tb (List.mem_append_left (tables_1_2 ++ (tables_1_3 ++ tables_1_4)) (List.mem_of_getElem? (i := 233) rfl))
theorem q233 : (Jvm.Cond.static ({ cls := "DigitChipLaw", name := "assemble", desc := "(LDigitChip;[J)I" } : Jvm.MethodName)) ∈ zT := zT_in b233 rfl
theorem b234 : (Jvm.Cond.codeWith ({ cls := "DigitChipLaw", name := "assemble", desc := "(LDigitChip;[J)I" } : Jvm.MethodName) method_3_code (3 : Nat) (Option.some Jvm.ClassFile.FieldType.int) [((0 : Nat), (8 : Nat), (11 : Nat), (13 : Nat))]) ∈ lw_tbl := zT_tb (List.mem_append_left (tables_1_2 ++ (tables_1_3 ++ tables_1_4)) (List.mem_of_getElem? (i := 234) rfl))
theorem q234 : (Jvm.Cond.codeWith ({ cls := "DigitChipLaw", name := "assemble", desc := "(LDigitChip;[J)I" } : Jvm.MethodName) method_3_code (3 : Nat) (Option.some Jvm.ClassFile.FieldType.int) [((0 : Nat), (8 : Nat), (11 : Nat), (13 : Nat))]) ∈ zT := zT_in b234 rfl
theorem b235 : (Jvm.Cond.classLink "DigitChipLaw" (13 : Nat) "java/lang/IllegalArgumentException") ∈ lw_tbl := zT_tb (List.mem_append_left (tables_1_2 ++ (tables_1_3 ++ tables_1_4)) (List.mem_of_getElem? (i := 235) rfl))
theorem q235 : (Jvm.Cond.classLink "DigitChipLaw" (13 : Nat) "java/lang/IllegalArgumentException") ∈ zT := zT_in b235 rfl
theorem b236 : (Jvm.Cond.methodLink "DigitChipLaw" (7 : Nat) ({ cls := "DigitChip", name := "assemble", desc := "()I" } : Jvm.MethodName)) ∈ lw_tbl := zT_tb (List.mem_append_left (tables_1_2 ++ (tables_1_3 ++ tables_1_4)) (List.mem_of_getElem? (i := 236) rfl))
theorem q236 : (Jvm.Cond.methodLink "DigitChipLaw" (7 : Nat) ({ cls := "DigitChip", name := "assemble", desc := "()I" } : Jvm.MethodName)) ∈ zT := zT_in b236 rfl
theorem b237 : (Jvm.Cond.instanceMethod ({ cls := "DigitChip", name := "assemble", desc := "()I" } : Jvm.MethodName)) ∈ lw_tbl := zT_tb (List.mem_append_left (tables_1_2 ++ (tables_1_3 ++ tables_1_4)) (List.mem_of_getElem? (i := 237) rfl))
theorem q237 : (Jvm.Cond.instanceMethod ({ cls := "DigitChip", name := "assemble", desc := "()I" } : Jvm.MethodName)) ∈ zT := zT_in b237 rfl
theorem b238 : (Jvm.Cond.selects "DigitChip" ({ cls := "DigitChip", name := "assemble", desc := "()I" } : Jvm.MethodName) ({ cls := "DigitChip", name := "assemble", desc := "()I" } : Jvm.MethodName)) ∈ lw_tbl := zT_tb (List.mem_append_left (tables_1_2 ++ (tables_1_3 ++ tables_1_4)) (List.mem_of_getElem? (i := 238) rfl))
theorem q238 : (Jvm.Cond.selects "DigitChip" ({ cls := "DigitChip", name := "assemble", desc := "()I" } : Jvm.MethodName) ({ cls := "DigitChip", name := "assemble", desc := "()I" } : Jvm.MethodName)) ∈ zT := zT_in b238 rfl
theorem b239 : (Jvm.Cond.code ({ cls := "DigitChip", name := "assemble", desc := "()I" } : Jvm.MethodName) prog_1_method_3_code (1 : Nat) (Option.some Jvm.ClassFile.FieldType.int)) ∈ lw_tbl := zT_tb (List.mem_append_left (tables_1_2 ++ (tables_1_3 ++ tables_1_4)) (List.mem_of_getElem? (i := 239) rfl))
theorem q239 : (Jvm.Cond.code ({ cls := "DigitChip", name := "assemble", desc := "()I" } : Jvm.MethodName) prog_1_method_3_code (1 : Nat) (Option.some Jvm.ClassFile.FieldType.int)) ∈ zT := zT_in b239 rfl
theorem b240 : (Jvm.Cond.methodLink "DigitChip" (27 : Nat) ({ cls := "DigitChip$Assembler", name := "takeText", desc := "()Z" } : Jvm.MethodName)) ∈ lw_tbl := zT_tb (List.mem_append_right tables_1_1 (List.mem_append_left (tables_1_3 ++ tables_1_4) (List.mem_of_getElem? (i := 0) rfl)))
theorem q240 : (Jvm.Cond.methodLink "DigitChip" (27 : Nat) ({ cls := "DigitChip$Assembler", name := "takeText", desc := "()Z" } : Jvm.MethodName)) ∈ zT := zT_in b240 rfl
theorem b241 : (Jvm.Cond.instanceMethod ({ cls := "DigitChip$Assembler", name := "takeText", desc := "()Z" } : Jvm.MethodName)) ∈ lw_tbl := zT_tb (List.mem_append_right tables_1_1 (List.mem_append_left (tables_1_3 ++ tables_1_4) (List.mem_of_getElem? (i := 1) rfl)))
theorem q241 : (Jvm.Cond.instanceMethod ({ cls := "DigitChip$Assembler", name := "takeText", desc := "()Z" } : Jvm.MethodName)) ∈ zT := zT_in b241 rfl
theorem b242 : (Jvm.Cond.selects "DigitChip$Assembler" ({ cls := "DigitChip$Assembler", name := "takeText", desc := "()Z" } : Jvm.MethodName) ({ cls := "DigitChip$Assembler", name := "takeText", desc := "()Z" } : Jvm.MethodName)) ∈ lw_tbl := zT_tb (List.mem_append_right tables_1_1 (List.mem_append_left (tables_1_3 ++ tables_1_4) (List.mem_of_getElem? (i := 2) rfl)))
theorem q242 : (Jvm.Cond.selects "DigitChip$Assembler" ({ cls := "DigitChip$Assembler", name := "takeText", desc := "()Z" } : Jvm.MethodName) ({ cls := "DigitChip$Assembler", name := "takeText", desc := "()Z" } : Jvm.MethodName)) ∈ zT := zT_in b242 rfl
theorem b243 : (Jvm.Cond.code ({ cls := "DigitChip$Assembler", name := "takeText", desc := "()Z" } : Jvm.MethodName) prog_2_method_3_code (2 : Nat) (Option.some Jvm.ClassFile.FieldType.boolean)) ∈ lw_tbl := zT_tb (List.mem_append_right tables_1_1 (List.mem_append_left (tables_1_3 ++ tables_1_4) (List.mem_of_getElem? (i := 3) rfl)))
theorem q243 : (Jvm.Cond.code ({ cls := "DigitChip$Assembler", name := "takeText", desc := "()Z" } : Jvm.MethodName) prog_2_method_3_code (2 : Nat) (Option.some Jvm.ClassFile.FieldType.boolean)) ∈ zT := zT_in b243 rfl
theorem b244 : (Jvm.Cond.methodLink "DigitChip$Assembler" (45 : Nat) ({ cls := "java/util/Arrays", name := "fill", desc := "([II)V" } : Jvm.MethodName)) ∈ lw_tbl := zT_tb (List.mem_append_right tables_1_1 (List.mem_append_left (tables_1_3 ++ tables_1_4) (List.mem_of_getElem? (i := 4) rfl)))
theorem q244 : (Jvm.Cond.methodLink "DigitChip$Assembler" (45 : Nat) ({ cls := "java/util/Arrays", name := "fill", desc := "([II)V" } : Jvm.MethodName)) ∈ zT := zT_in b244 rfl
theorem b245 : (Jvm.Cond.static ({ cls := "java/util/Arrays", name := "fill", desc := "([II)V" } : Jvm.MethodName)) ∈ lw_tbl := zT_tb (List.mem_append_right tables_1_1 (List.mem_append_left (tables_1_3 ++ tables_1_4) (List.mem_of_getElem? (i := 5) rfl)))
theorem q245 : (Jvm.Cond.static ({ cls := "java/util/Arrays", name := "fill", desc := "([II)V" } : Jvm.MethodName)) ∈ zT := zT_in b245 rfl
theorem b246 : (Jvm.Cond.code ({ cls := "java/util/Arrays", name := "fill", desc := "([II)V" } : Jvm.MethodName) prog_17_method_103_code (4 : Nat) (Option.none : Option Jvm.ClassFile.FieldType)) ∈ lw_tbl := zT_tb (List.mem_append_right tables_1_1 (List.mem_append_left (tables_1_3 ++ tables_1_4) (List.mem_of_getElem? (i := 6) rfl)))
theorem q246 : (Jvm.Cond.code ({ cls := "java/util/Arrays", name := "fill", desc := "([II)V" } : Jvm.MethodName) prog_17_method_103_code (4 : Nat) (Option.none : Option Jvm.ClassFile.FieldType)) ∈ zT := zT_in b246 rfl
theorem b247 : (Jvm.Cond.methodLink "DigitChip$Assembler" (51 : Nat) ({ cls := "DigitChip$Assembler", name := "beginsName", desc := "(I)Z" } : Jvm.MethodName)) ∈ lw_tbl := zT_tb (List.mem_append_right tables_1_1 (List.mem_append_left (tables_1_3 ++ tables_1_4) (List.mem_of_getElem? (i := 7) rfl)))
theorem q247 : (Jvm.Cond.methodLink "DigitChip$Assembler" (51 : Nat) ({ cls := "DigitChip$Assembler", name := "beginsName", desc := "(I)Z" } : Jvm.MethodName)) ∈ zT := zT_in b247 rfl
theorem b248 : (Jvm.Cond.privateMethod ({ cls := "DigitChip$Assembler", name := "beginsName", desc := "(I)Z" } : Jvm.MethodName)) ∈ lw_tbl := zT_tb (List.mem_append_right tables_1_1 (List.mem_append_left (tables_1_3 ++ tables_1_4) (List.mem_of_getElem? (i := 8) rfl)))
theorem b249 : (Jvm.Cond.instanceMethod ({ cls := "DigitChip$Assembler", name := "beginsName", desc := "(I)Z" } : Jvm.MethodName)) ∈ lw_tbl := zT_tb (List.mem_append_right tables_1_1 (List.mem_append_left (tables_1_3 ++ tables_1_4) (List.mem_of_getElem? (i := 9) rfl)))
theorem q249 : (Jvm.Cond.instanceMethod ({ cls := "DigitChip$Assembler", name := "beginsName", desc := "(I)Z" } : Jvm.MethodName)) ∈ zT := zT_in b249 rfl
theorem b250 : (Jvm.Cond.code ({ cls := "DigitChip$Assembler", name := "beginsName", desc := "(I)Z" } : Jvm.MethodName) prog_2_method_4_code (2 : Nat) (Option.some Jvm.ClassFile.FieldType.boolean)) ∈ lw_tbl := zT_tb (List.mem_append_right tables_1_1 (List.mem_append_left (tables_1_3 ++ tables_1_4) (List.mem_of_getElem? (i := 10) rfl)))
theorem q250 : (Jvm.Cond.code ({ cls := "DigitChip$Assembler", name := "beginsName", desc := "(I)Z" } : Jvm.MethodName) prog_2_method_4_code (2 : Nat) (Option.some Jvm.ClassFile.FieldType.boolean)) ∈ zT := zT_in b250 rfl
theorem b251 : (Jvm.Cond.methodLink "DigitChip$Assembler" (55 : Nat) ({ cls := "DigitChip$Assembler", name := "endOfName", desc := "(I)I" } : Jvm.MethodName)) ∈ lw_tbl := zT_tb (List.mem_append_right tables_1_1 (List.mem_append_left (tables_1_3 ++ tables_1_4) (List.mem_of_getElem? (i := 11) rfl)))
theorem q251 : (Jvm.Cond.methodLink "DigitChip$Assembler" (55 : Nat) ({ cls := "DigitChip$Assembler", name := "endOfName", desc := "(I)I" } : Jvm.MethodName)) ∈ zT := zT_in b251 rfl
theorem b252 : (Jvm.Cond.privateMethod ({ cls := "DigitChip$Assembler", name := "endOfName", desc := "(I)I" } : Jvm.MethodName)) ∈ lw_tbl := zT_tb (List.mem_append_right tables_1_1 (List.mem_append_left (tables_1_3 ++ tables_1_4) (List.mem_of_getElem? (i := 12) rfl)))
theorem b253 : (Jvm.Cond.instanceMethod ({ cls := "DigitChip$Assembler", name := "endOfName", desc := "(I)I" } : Jvm.MethodName)) ∈ lw_tbl := zT_tb (List.mem_append_right tables_1_1 (List.mem_append_left (tables_1_3 ++ tables_1_4) (List.mem_of_getElem? (i := 13) rfl)))
theorem q253 : (Jvm.Cond.instanceMethod ({ cls := "DigitChip$Assembler", name := "endOfName", desc := "(I)I" } : Jvm.MethodName)) ∈ zT := zT_in b253 rfl
theorem b254 : (Jvm.Cond.code ({ cls := "DigitChip$Assembler", name := "endOfName", desc := "(I)I" } : Jvm.MethodName) prog_2_method_5_code (3 : Nat) (Option.some Jvm.ClassFile.FieldType.int)) ∈ lw_tbl := zT_tb (List.mem_append_right tables_1_1 (List.mem_append_left (tables_1_3 ++ tables_1_4) (List.mem_of_getElem? (i := 14) rfl)))
theorem q254 : (Jvm.Cond.code ({ cls := "DigitChip$Assembler", name := "endOfName", desc := "(I)I" } : Jvm.MethodName) prog_2_method_5_code (3 : Nat) (Option.some Jvm.ClassFile.FieldType.int)) ∈ zT := zT_in b254 rfl
theorem b255 : (Jvm.Cond.methodLink "DigitChip$Assembler" (59 : Nat) ({ cls := "DigitChip$Assembler", name := "takeName", desc := "(II)Z" } : Jvm.MethodName)) ∈ lw_tbl := zT_tb (List.mem_append_right tables_1_1 (List.mem_append_left (tables_1_3 ++ tables_1_4) (List.mem_of_getElem? (i := 15) rfl)))
theorem q255 : (Jvm.Cond.methodLink "DigitChip$Assembler" (59 : Nat) ({ cls := "DigitChip$Assembler", name := "takeName", desc := "(II)Z" } : Jvm.MethodName)) ∈ zT := zT_in b255 rfl
theorem b256 : (Jvm.Cond.privateMethod ({ cls := "DigitChip$Assembler", name := "takeName", desc := "(II)Z" } : Jvm.MethodName)) ∈ lw_tbl := zT_tb (List.mem_append_right tables_1_1 (List.mem_append_left (tables_1_3 ++ tables_1_4) (List.mem_of_getElem? (i := 16) rfl)))
theorem b257 : (Jvm.Cond.instanceMethod ({ cls := "DigitChip$Assembler", name := "takeName", desc := "(II)Z" } : Jvm.MethodName)) ∈ lw_tbl := zT_tb (List.mem_append_right tables_1_1 (List.mem_append_left (tables_1_3 ++ tables_1_4) (List.mem_of_getElem? (i := 17) rfl)))
theorem q257 : (Jvm.Cond.instanceMethod ({ cls := "DigitChip$Assembler", name := "takeName", desc := "(II)Z" } : Jvm.MethodName)) ∈ zT := zT_in b257 rfl
theorem b258 : (Jvm.Cond.code ({ cls := "DigitChip$Assembler", name := "takeName", desc := "(II)Z" } : Jvm.MethodName) prog_2_method_6_code (4 : Nat) (Option.some Jvm.ClassFile.FieldType.boolean)) ∈ lw_tbl := zT_tb (List.mem_append_right tables_1_1 (List.mem_append_left (tables_1_3 ++ tables_1_4) (List.mem_of_getElem? (i := 18) rfl)))
theorem q258 : (Jvm.Cond.code ({ cls := "DigitChip$Assembler", name := "takeName", desc := "(II)Z" } : Jvm.MethodName) prog_2_method_6_code (4 : Nat) (Option.some Jvm.ClassFile.FieldType.boolean)) ∈ zT := zT_in b258 rfl
theorem b259 : (Jvm.Cond.stringRef "DigitChip$Assembler" (66 : Nat) ":L") ∈ lw_tbl := zT_tb (List.mem_append_right tables_1_1 (List.mem_append_left (tables_1_3 ++ tables_1_4) (List.mem_of_getElem? (i := 19) rfl)))
theorem b260 : (Jvm.Cond.methodLink "DigitChip$Assembler" (68 : Nat) ({ cls := "DigitChip$Assembler", name := "findName", desc := "(Ljava/lang/String;II)I" } : Jvm.MethodName)) ∈ lw_tbl := zT_tb (List.mem_append_right tables_1_1 (List.mem_append_left (tables_1_3 ++ tables_1_4) (List.mem_of_getElem? (i := 20) rfl)))
theorem q260 : (Jvm.Cond.methodLink "DigitChip$Assembler" (68 : Nat) ({ cls := "DigitChip$Assembler", name := "findName", desc := "(Ljava/lang/String;II)I" } : Jvm.MethodName)) ∈ zT := zT_in b260 rfl
theorem b261 : (Jvm.Cond.privateMethod ({ cls := "DigitChip$Assembler", name := "findName", desc := "(Ljava/lang/String;II)I" } : Jvm.MethodName)) ∈ lw_tbl := zT_tb (List.mem_append_right tables_1_1 (List.mem_append_left (tables_1_3 ++ tables_1_4) (List.mem_of_getElem? (i := 21) rfl)))
theorem b262 : (Jvm.Cond.instanceMethod ({ cls := "DigitChip$Assembler", name := "findName", desc := "(Ljava/lang/String;II)I" } : Jvm.MethodName)) ∈ lw_tbl := zT_tb (List.mem_append_right tables_1_1 (List.mem_append_left (tables_1_3 ++ tables_1_4) (List.mem_of_getElem? (i := 22) rfl)))
theorem q262 : (Jvm.Cond.instanceMethod ({ cls := "DigitChip$Assembler", name := "findName", desc := "(Ljava/lang/String;II)I" } : Jvm.MethodName)) ∈ zT := zT_in b262 rfl
theorem b263 : (Jvm.Cond.code ({ cls := "DigitChip$Assembler", name := "findName", desc := "(Ljava/lang/String;II)I" } : Jvm.MethodName) prog_2_method_9_code (6 : Nat) (Option.some Jvm.ClassFile.FieldType.int)) ∈ lw_tbl := zT_tb (List.mem_append_right tables_1_1 (List.mem_append_left (tables_1_3 ++ tables_1_4) (List.mem_of_getElem? (i := 23) rfl)))
theorem q263 : (Jvm.Cond.code ({ cls := "DigitChip$Assembler", name := "findName", desc := "(Ljava/lang/String;II)I" } : Jvm.MethodName) prog_2_method_9_code (6 : Nat) (Option.some Jvm.ClassFile.FieldType.int)) ∈ zT := zT_in b263 rfl
theorem b264 : (Jvm.Cond.methodLink "DigitChip$Assembler" (85 : Nat) ({ cls := "java/lang/String", name := "charAt", desc := "(I)C" } : Jvm.MethodName)) ∈ lw_tbl := zT_tb (List.mem_append_right tables_1_1 (List.mem_append_left (tables_1_3 ++ tables_1_4) (List.mem_of_getElem? (i := 24) rfl)))
theorem q264 : (Jvm.Cond.methodLink "DigitChip$Assembler" (85 : Nat) ({ cls := "java/lang/String", name := "charAt", desc := "(I)C" } : Jvm.MethodName)) ∈ zT := zT_in b264 rfl
theorem b265 : (Jvm.Cond.instanceMethod ({ cls := "java/lang/String", name := "charAt", desc := "(I)C" } : Jvm.MethodName)) ∈ lw_tbl := zT_tb (List.mem_append_right tables_1_1 (List.mem_append_left (tables_1_3 ++ tables_1_4) (List.mem_of_getElem? (i := 25) rfl)))
theorem q265 : (Jvm.Cond.instanceMethod ({ cls := "java/lang/String", name := "charAt", desc := "(I)C" } : Jvm.MethodName)) ∈ zT := zT_in b265 rfl
theorem b266 : (Jvm.Cond.selects "java/lang/String" ({ cls := "java/lang/String", name := "charAt", desc := "(I)C" } : Jvm.MethodName) ({ cls := "java/lang/String", name := "charAt", desc := "(I)C" } : Jvm.MethodName)) ∈ lw_tbl := zT_tb (List.mem_append_right tables_1_1 (List.mem_append_left (tables_1_3 ++ tables_1_4) (List.mem_of_getElem? (i := 26) rfl)))
theorem q266 : (Jvm.Cond.selects "java/lang/String" ({ cls := "java/lang/String", name := "charAt", desc := "(I)C" } : Jvm.MethodName) ({ cls := "java/lang/String", name := "charAt", desc := "(I)C" } : Jvm.MethodName)) ∈ zT := zT_in b266 rfl
theorem b267 : (Jvm.Cond.code ({ cls := "java/lang/String", name := "charAt", desc := "(I)C" } : Jvm.MethodName) prog_13_method_56_code (2 : Nat) (Option.some Jvm.ClassFile.FieldType.char)) ∈ lw_tbl := zT_tb (List.mem_append_right tables_1_1 (List.mem_append_left (tables_1_3 ++ tables_1_4) (List.mem_of_getElem? (i := 27) rfl)))
theorem q267 : (Jvm.Cond.code ({ cls := "java/lang/String", name := "charAt", desc := "(I)C" } : Jvm.MethodName) prog_13_method_56_code (2 : Nat) (Option.some Jvm.ClassFile.FieldType.char)) ∈ zT := zT_in b267 rfl
theorem b268 : (Jvm.Cond.methodLink "java/lang/String" (492 : Nat) ({ cls := "java/lang/String", name := "isLatin1", desc := "()Z" } : Jvm.MethodName)) ∈ lw_tbl := zT_tb (List.mem_append_right tables_1_1 (List.mem_append_left (tables_1_3 ++ tables_1_4) (List.mem_of_getElem? (i := 28) rfl)))
theorem q268 : (Jvm.Cond.methodLink "java/lang/String" (492 : Nat) ({ cls := "java/lang/String", name := "isLatin1", desc := "()Z" } : Jvm.MethodName)) ∈ zT := zT_in b268 rfl
theorem b269 : (Jvm.Cond.instanceMethod ({ cls := "java/lang/String", name := "isLatin1", desc := "()Z" } : Jvm.MethodName)) ∈ lw_tbl := zT_tb (List.mem_append_right tables_1_1 (List.mem_append_left (tables_1_3 ++ tables_1_4) (List.mem_of_getElem? (i := 29) rfl)))
theorem q269 : (Jvm.Cond.instanceMethod ({ cls := "java/lang/String", name := "isLatin1", desc := "()Z" } : Jvm.MethodName)) ∈ zT := zT_in b269 rfl
theorem b270 : (Jvm.Cond.selects "java/lang/String" ({ cls := "java/lang/String", name := "isLatin1", desc := "()Z" } : Jvm.MethodName) ({ cls := "java/lang/String", name := "isLatin1", desc := "()Z" } : Jvm.MethodName)) ∈ lw_tbl := zT_tb (List.mem_append_right tables_1_1 (List.mem_append_left (tables_1_3 ++ tables_1_4) (List.mem_of_getElem? (i := 30) rfl)))
theorem q270 : (Jvm.Cond.selects "java/lang/String" ({ cls := "java/lang/String", name := "isLatin1", desc := "()Z" } : Jvm.MethodName) ({ cls := "java/lang/String", name := "isLatin1", desc := "()Z" } : Jvm.MethodName)) ∈ zT := zT_in b270 rfl
theorem b271 : (Jvm.Cond.code ({ cls := "java/lang/String", name := "isLatin1", desc := "()Z" } : Jvm.MethodName) prog_13_method_154_code (1 : Nat) (Option.some Jvm.ClassFile.FieldType.boolean)) ∈ lw_tbl := zT_tb (List.mem_append_right tables_1_1 (List.mem_append_left (tables_1_3 ++ tables_1_4) (List.mem_of_getElem? (i := 31) rfl)))
theorem q271 : (Jvm.Cond.code ({ cls := "java/lang/String", name := "isLatin1", desc := "()Z" } : Jvm.MethodName) prog_13_method_154_code (1 : Nat) (Option.some Jvm.ClassFile.FieldType.boolean)) ∈ zT := zT_in b271 rfl
theorem b272 : (Jvm.Cond.methodLink "java/lang/String" (495 : Nat) ({ cls := "java/lang/StringLatin1", name := "charAt", desc := "([BI)C" } : Jvm.MethodName)) ∈ lw_tbl := zT_tb (List.mem_append_right tables_1_1 (List.mem_append_left (tables_1_3 ++ tables_1_4) (List.mem_of_getElem? (i := 32) rfl)))
theorem q272 : (Jvm.Cond.methodLink "java/lang/String" (495 : Nat) ({ cls := "java/lang/StringLatin1", name := "charAt", desc := "([BI)C" } : Jvm.MethodName)) ∈ zT := zT_in b272 rfl
theorem b273 : (Jvm.Cond.static ({ cls := "java/lang/StringLatin1", name := "charAt", desc := "([BI)C" } : Jvm.MethodName)) ∈ lw_tbl := zT_tb (List.mem_append_right tables_1_1 (List.mem_append_left (tables_1_3 ++ tables_1_4) (List.mem_of_getElem? (i := 33) rfl)))
theorem q273 : (Jvm.Cond.static ({ cls := "java/lang/StringLatin1", name := "charAt", desc := "([BI)C" } : Jvm.MethodName)) ∈ zT := zT_in b273 rfl
theorem b274 : (Jvm.Cond.code ({ cls := "java/lang/StringLatin1", name := "charAt", desc := "([BI)C" } : Jvm.MethodName) prog_14_method_2_code (2 : Nat) (Option.some Jvm.ClassFile.FieldType.char)) ∈ lw_tbl := zT_tb (List.mem_append_right tables_1_1 (List.mem_append_left (tables_1_3 ++ tables_1_4) (List.mem_of_getElem? (i := 34) rfl)))
theorem q274 : (Jvm.Cond.code ({ cls := "java/lang/StringLatin1", name := "charAt", desc := "([BI)C" } : Jvm.MethodName) prog_14_method_2_code (2 : Nat) (Option.some Jvm.ClassFile.FieldType.char)) ∈ zT := zT_in b274 rfl
theorem b275 : (Jvm.Cond.methodLink "java/lang/StringLatin1" (9 : Nat) ({ cls := "java/lang/String", name := "checkIndex", desc := "(II)V" } : Jvm.MethodName)) ∈ lw_tbl := zT_tb (List.mem_append_right tables_1_1 (List.mem_append_left (tables_1_3 ++ tables_1_4) (List.mem_of_getElem? (i := 35) rfl)))
theorem q275 : (Jvm.Cond.methodLink "java/lang/StringLatin1" (9 : Nat) ({ cls := "java/lang/String", name := "checkIndex", desc := "(II)V" } : Jvm.MethodName)) ∈ zT := zT_in b275 rfl
theorem b276 : (Jvm.Cond.static ({ cls := "java/lang/String", name := "checkIndex", desc := "(II)V" } : Jvm.MethodName)) ∈ lw_tbl := zT_tb (List.mem_append_right tables_1_1 (List.mem_append_left (tables_1_3 ++ tables_1_4) (List.mem_of_getElem? (i := 36) rfl)))
theorem q276 : (Jvm.Cond.static ({ cls := "java/lang/String", name := "checkIndex", desc := "(II)V" } : Jvm.MethodName)) ∈ zT := zT_in b276 rfl
theorem b277 : (Jvm.Cond.code ({ cls := "java/lang/String", name := "checkIndex", desc := "(II)V" } : Jvm.MethodName) prog_13_method_155_code (2 : Nat) (Option.none : Option Jvm.ClassFile.FieldType)) ∈ lw_tbl := zT_tb (List.mem_append_right tables_1_1 (List.mem_append_left (tables_1_3 ++ tables_1_4) (List.mem_of_getElem? (i := 37) rfl)))
theorem q277 : (Jvm.Cond.code ({ cls := "java/lang/String", name := "checkIndex", desc := "(II)V" } : Jvm.MethodName) prog_13_method_155_code (2 : Nat) (Option.none : Option Jvm.ClassFile.FieldType)) ∈ zT := zT_in b277 rfl
theorem b278 : (Jvm.Cond.fieldLink "java/lang/String" (1053 : Nat) "jdk/internal/util/Preconditions" "SIOOBE_FORMATTER" "Ljava/util/function/BiFunction;") ∈ lw_tbl := zT_tb (List.mem_append_right tables_1_1 (List.mem_append_left (tables_1_3 ++ tables_1_4) (List.mem_of_getElem? (i := 38) rfl)))
theorem q278 : (Jvm.Cond.fieldLink "java/lang/String" (1053 : Nat) "jdk/internal/util/Preconditions" "SIOOBE_FORMATTER" "Ljava/util/function/BiFunction;") ∈ zT := zT_in b278 rfl
theorem b279 : (Jvm.Cond.laysStatic "jdk/internal/util/Preconditions" "SIOOBE_FORMATTER" "Ljava/util/function/BiFunction;") ∈ lw_tbl := zT_tb (List.mem_append_right tables_1_1 (List.mem_append_left (tables_1_3 ++ tables_1_4) (List.mem_of_getElem? (i := 39) rfl)))
theorem b280 : (Jvm.Cond.methodLink "java/lang/String" (1059 : Nat) ({ cls := "jdk/internal/util/Preconditions", name := "checkIndex", desc := "(IILjava/util/function/BiFunction;)I" } : Jvm.MethodName)) ∈ lw_tbl := zT_tb (List.mem_append_right tables_1_1 (List.mem_append_left (tables_1_3 ++ tables_1_4) (List.mem_of_getElem? (i := 40) rfl)))
theorem q280 : (Jvm.Cond.methodLink "java/lang/String" (1059 : Nat) ({ cls := "jdk/internal/util/Preconditions", name := "checkIndex", desc := "(IILjava/util/function/BiFunction;)I" } : Jvm.MethodName)) ∈ zT := zT_in b280 rfl
theorem b281 : (Jvm.Cond.static ({ cls := "jdk/internal/util/Preconditions", name := "checkIndex", desc := "(IILjava/util/function/BiFunction;)I" } : Jvm.MethodName)) ∈ lw_tbl := zT_tb (List.mem_append_right tables_1_1 (List.mem_append_left (tables_1_3 ++ tables_1_4) (List.mem_of_getElem? (i := 41) rfl)))
theorem q281 : (Jvm.Cond.static ({ cls := "jdk/internal/util/Preconditions", name := "checkIndex", desc := "(IILjava/util/function/BiFunction;)I" } : Jvm.MethodName)) ∈ zT := zT_in b281 rfl
theorem b282 : (Jvm.Cond.code ({ cls := "jdk/internal/util/Preconditions", name := "checkIndex", desc := "(IILjava/util/function/BiFunction;)I" } : Jvm.MethodName) prog_18_method_11_code (3 : Nat) (Option.some Jvm.ClassFile.FieldType.int)) ∈ lw_tbl := zT_tb (List.mem_append_right tables_1_1 (List.mem_append_left (tables_1_3 ++ tables_1_4) (List.mem_of_getElem? (i := 42) rfl)))
theorem q282 : (Jvm.Cond.code ({ cls := "jdk/internal/util/Preconditions", name := "checkIndex", desc := "(IILjava/util/function/BiFunction;)I" } : Jvm.MethodName) prog_18_method_11_code (3 : Nat) (Option.some Jvm.ClassFile.FieldType.int)) ∈ zT := zT_in b282 rfl
theorem b283 : (Jvm.Cond.methodLink "java/lang/String" (498 : Nat) ({ cls := "java/lang/StringUTF16", name := "charAt", desc := "([BI)C" } : Jvm.MethodName)) ∈ lw_tbl := zT_tb (List.mem_append_right tables_1_1 (List.mem_append_left (tables_1_3 ++ tables_1_4) (List.mem_of_getElem? (i := 43) rfl)))
theorem q283 : (Jvm.Cond.methodLink "java/lang/String" (498 : Nat) ({ cls := "java/lang/StringUTF16", name := "charAt", desc := "([BI)C" } : Jvm.MethodName)) ∈ zT := zT_in b283 rfl
theorem b284 : (Jvm.Cond.static ({ cls := "java/lang/StringUTF16", name := "charAt", desc := "([BI)C" } : Jvm.MethodName)) ∈ lw_tbl := zT_tb (List.mem_append_right tables_1_1 (List.mem_append_left (tables_1_3 ++ tables_1_4) (List.mem_of_getElem? (i := 44) rfl)))
theorem q284 : (Jvm.Cond.static ({ cls := "java/lang/StringUTF16", name := "charAt", desc := "([BI)C" } : Jvm.MethodName)) ∈ zT := zT_in b284 rfl
theorem b285 : (Jvm.Cond.code ({ cls := "java/lang/StringUTF16", name := "charAt", desc := "([BI)C" } : Jvm.MethodName) prog_15_method_83_code (2 : Nat) (Option.some Jvm.ClassFile.FieldType.char)) ∈ lw_tbl := zT_tb (List.mem_append_right tables_1_1 (List.mem_append_left (tables_1_3 ++ tables_1_4) (List.mem_of_getElem? (i := 45) rfl)))
theorem q285 : (Jvm.Cond.code ({ cls := "java/lang/StringUTF16", name := "charAt", desc := "([BI)C" } : Jvm.MethodName) prog_15_method_83_code (2 : Nat) (Option.some Jvm.ClassFile.FieldType.char)) ∈ zT := zT_in b285 rfl
theorem b286 : (Jvm.Cond.methodLink "java/lang/StringUTF16" (67 : Nat) ({ cls := "java/lang/StringUTF16", name := "checkIndex", desc := "(I[B)V" } : Jvm.MethodName)) ∈ lw_tbl := zT_tb (List.mem_append_right tables_1_1 (List.mem_append_left (tables_1_3 ++ tables_1_4) (List.mem_of_getElem? (i := 46) rfl)))
theorem q286 : (Jvm.Cond.methodLink "java/lang/StringUTF16" (67 : Nat) ({ cls := "java/lang/StringUTF16", name := "checkIndex", desc := "(I[B)V" } : Jvm.MethodName)) ∈ zT := zT_in b286 rfl
theorem b287 : (Jvm.Cond.static ({ cls := "java/lang/StringUTF16", name := "checkIndex", desc := "(I[B)V" } : Jvm.MethodName)) ∈ lw_tbl := zT_tb (List.mem_append_right tables_1_1 (List.mem_append_left (tables_1_3 ++ tables_1_4) (List.mem_of_getElem? (i := 47) rfl)))
theorem q287 : (Jvm.Cond.static ({ cls := "java/lang/StringUTF16", name := "checkIndex", desc := "(I[B)V" } : Jvm.MethodName)) ∈ zT := zT_in b287 rfl
theorem b288 : (Jvm.Cond.code ({ cls := "java/lang/StringUTF16", name := "checkIndex", desc := "(I[B)V" } : Jvm.MethodName) prog_15_method_91_code (2 : Nat) (Option.none : Option Jvm.ClassFile.FieldType)) ∈ lw_tbl := zT_tb (List.mem_append_right tables_1_1 (List.mem_append_left (tables_1_3 ++ tables_1_4) (List.mem_of_getElem? (i := 48) rfl)))
theorem q288 : (Jvm.Cond.code ({ cls := "java/lang/StringUTF16", name := "checkIndex", desc := "(I[B)V" } : Jvm.MethodName) prog_15_method_91_code (2 : Nat) (Option.none : Option Jvm.ClassFile.FieldType)) ∈ zT := zT_in b288 rfl
theorem b289 : (Jvm.Cond.methodLink "java/lang/StringUTF16" (48 : Nat) ({ cls := "java/lang/StringUTF16", name := "length", desc := "([B)I" } : Jvm.MethodName)) ∈ lw_tbl := zT_tb (List.mem_append_right tables_1_1 (List.mem_append_left (tables_1_3 ++ tables_1_4) (List.mem_of_getElem? (i := 49) rfl)))
theorem q289 : (Jvm.Cond.methodLink "java/lang/StringUTF16" (48 : Nat) ({ cls := "java/lang/StringUTF16", name := "length", desc := "([B)I" } : Jvm.MethodName)) ∈ zT := zT_in b289 rfl
theorem b290 : (Jvm.Cond.static ({ cls := "java/lang/StringUTF16", name := "length", desc := "([B)I" } : Jvm.MethodName)) ∈ lw_tbl := zT_tb (List.mem_append_right tables_1_1 (List.mem_append_left (tables_1_3 ++ tables_1_4) (List.mem_of_getElem? (i := 50) rfl)))
theorem q290 : (Jvm.Cond.static ({ cls := "java/lang/StringUTF16", name := "length", desc := "([B)I" } : Jvm.MethodName)) ∈ zT := zT_in b290 rfl
theorem b291 : (Jvm.Cond.code ({ cls := "java/lang/StringUTF16", name := "length", desc := "([B)I" } : Jvm.MethodName) prog_15_method_6_code (1 : Nat) (Option.some Jvm.ClassFile.FieldType.int)) ∈ lw_tbl := zT_tb (List.mem_append_right tables_1_1 (List.mem_append_left (tables_1_3 ++ tables_1_4) (List.mem_of_getElem? (i := 51) rfl)))
theorem q291 : (Jvm.Cond.code ({ cls := "java/lang/StringUTF16", name := "length", desc := "([B)I" } : Jvm.MethodName) prog_15_method_6_code (1 : Nat) (Option.some Jvm.ClassFile.FieldType.int)) ∈ zT := zT_in b291 rfl
theorem b292 : (Jvm.Cond.methodLink "java/lang/StringUTF16" (414 : Nat) ({ cls := "java/lang/String", name := "checkIndex", desc := "(II)V" } : Jvm.MethodName)) ∈ lw_tbl := zT_tb (List.mem_append_right tables_1_1 (List.mem_append_left (tables_1_3 ++ tables_1_4) (List.mem_of_getElem? (i := 52) rfl)))
theorem q292 : (Jvm.Cond.methodLink "java/lang/StringUTF16" (414 : Nat) ({ cls := "java/lang/String", name := "checkIndex", desc := "(II)V" } : Jvm.MethodName)) ∈ zT := zT_in b292 rfl
theorem b293 : (Jvm.Cond.methodLink "java/lang/StringUTF16" (71 : Nat) ({ cls := "java/lang/StringUTF16", name := "getChar", desc := "([BI)C" } : Jvm.MethodName)) ∈ lw_tbl := zT_tb (List.mem_append_right tables_1_1 (List.mem_append_left (tables_1_3 ++ tables_1_4) (List.mem_of_getElem? (i := 53) rfl)))
theorem q293 : (Jvm.Cond.methodLink "java/lang/StringUTF16" (71 : Nat) ({ cls := "java/lang/StringUTF16", name := "getChar", desc := "([BI)C" } : Jvm.MethodName)) ∈ zT := zT_in b293 rfl
theorem b294 : (Jvm.Cond.static ({ cls := "java/lang/StringUTF16", name := "getChar", desc := "([BI)C" } : Jvm.MethodName)) ∈ lw_tbl := zT_tb (List.mem_append_right tables_1_1 (List.mem_append_left (tables_1_3 ++ tables_1_4) (List.mem_of_getElem? (i := 54) rfl)))
theorem q294 : (Jvm.Cond.static ({ cls := "java/lang/StringUTF16", name := "getChar", desc := "([BI)C" } : Jvm.MethodName)) ∈ zT := zT_in b294 rfl
theorem b295 : (Jvm.Cond.code ({ cls := "java/lang/StringUTF16", name := "getChar", desc := "([BI)C" } : Jvm.MethodName) prog_15_method_5_code (2 : Nat) (Option.some Jvm.ClassFile.FieldType.char)) ∈ lw_tbl := zT_tb (List.mem_append_right tables_1_1 (List.mem_append_left (tables_1_3 ++ tables_1_4) (List.mem_of_getElem? (i := 55) rfl)))
theorem q295 : (Jvm.Cond.code ({ cls := "java/lang/StringUTF16", name := "getChar", desc := "([BI)C" } : Jvm.MethodName) prog_15_method_5_code (2 : Nat) (Option.some Jvm.ClassFile.FieldType.char)) ∈ zT := zT_in b295 rfl
theorem b296 : (Jvm.Cond.fieldLink "java/lang/StringUTF16" (44 : Nat) "java/lang/StringUTF16" "$assertionsDisabled" "Z") ∈ lw_tbl := zT_tb (List.mem_append_right tables_1_1 (List.mem_append_left (tables_1_3 ++ tables_1_4) (List.mem_of_getElem? (i := 56) rfl)))
theorem q296 : (Jvm.Cond.fieldLink "java/lang/StringUTF16" (44 : Nat) "java/lang/StringUTF16" "$assertionsDisabled" "Z") ∈ zT := zT_in b296 rfl
theorem b297 : (Jvm.Cond.laysStatic "java/lang/StringUTF16" "$assertionsDisabled" "Z") ∈ lw_tbl := zT_tb (List.mem_append_right tables_1_1 (List.mem_append_left (tables_1_3 ++ tables_1_4) (List.mem_of_getElem? (i := 57) rfl)))
theorem b298 : (Jvm.Cond.fieldLink "java/lang/StringUTF16" (59 : Nat) "java/lang/StringUTF16" "HI_BYTE_SHIFT" "I") ∈ lw_tbl := zT_tb (List.mem_append_right tables_1_1 (List.mem_append_left (tables_1_3 ++ tables_1_4) (List.mem_of_getElem? (i := 58) rfl)))
theorem q298 : (Jvm.Cond.fieldLink "java/lang/StringUTF16" (59 : Nat) "java/lang/StringUTF16" "HI_BYTE_SHIFT" "I") ∈ zT := zT_in b298 rfl
theorem b299 : (Jvm.Cond.laysStatic "java/lang/StringUTF16" "HI_BYTE_SHIFT" "I") ∈ lw_tbl := zT_tb (List.mem_append_right tables_1_1 (List.mem_append_left (tables_1_3 ++ tables_1_4) (List.mem_of_getElem? (i := 59) rfl)))
theorem b300 : (Jvm.Cond.fieldLink "java/lang/StringUTF16" (63 : Nat) "java/lang/StringUTF16" "LO_BYTE_SHIFT" "I") ∈ lw_tbl := zT_tb (List.mem_append_right tables_1_1 (List.mem_append_left (tables_1_3 ++ tables_1_4) (List.mem_of_getElem? (i := 60) rfl)))
theorem q300 : (Jvm.Cond.fieldLink "java/lang/StringUTF16" (63 : Nat) "java/lang/StringUTF16" "LO_BYTE_SHIFT" "I") ∈ zT := zT_in b300 rfl
theorem b301 : (Jvm.Cond.laysStatic "java/lang/StringUTF16" "LO_BYTE_SHIFT" "I") ∈ lw_tbl := zT_tb (List.mem_append_right tables_1_1 (List.mem_append_left (tables_1_3 ++ tables_1_4) (List.mem_of_getElem? (i := 61) rfl)))
theorem b302 : (Jvm.Cond.methodLink "DigitChip$Assembler" (89 : Nat) ({ cls := "DigitChip$Assembler", name := "isName", desc := "(Ljava/lang/String;III)Z" } : Jvm.MethodName)) ∈ lw_tbl := zT_tb (List.mem_append_right tables_1_1 (List.mem_append_left (tables_1_3 ++ tables_1_4) (List.mem_of_getElem? (i := 62) rfl)))
theorem q302 : (Jvm.Cond.methodLink "DigitChip$Assembler" (89 : Nat) ({ cls := "DigitChip$Assembler", name := "isName", desc := "(Ljava/lang/String;III)Z" } : Jvm.MethodName)) ∈ zT := zT_in b302 rfl
theorem b303 : (Jvm.Cond.privateMethod ({ cls := "DigitChip$Assembler", name := "isName", desc := "(Ljava/lang/String;III)Z" } : Jvm.MethodName)) ∈ lw_tbl := zT_tb (List.mem_append_right tables_1_1 (List.mem_append_left (tables_1_3 ++ tables_1_4) (List.mem_of_getElem? (i := 63) rfl)))
theorem b304 : (Jvm.Cond.instanceMethod ({ cls := "DigitChip$Assembler", name := "isName", desc := "(Ljava/lang/String;III)Z" } : Jvm.MethodName)) ∈ lw_tbl := zT_tb (List.mem_append_right tables_1_1 (List.mem_append_left (tables_1_3 ++ tables_1_4) (List.mem_of_getElem? (i := 64) rfl)))
theorem q304 : (Jvm.Cond.instanceMethod ({ cls := "DigitChip$Assembler", name := "isName", desc := "(Ljava/lang/String;III)Z" } : Jvm.MethodName)) ∈ zT := zT_in b304 rfl
theorem b305 : (Jvm.Cond.code ({ cls := "DigitChip$Assembler", name := "isName", desc := "(Ljava/lang/String;III)Z" } : Jvm.MethodName) prog_2_method_10_code (8 : Nat) (Option.some Jvm.ClassFile.FieldType.boolean)) ∈ lw_tbl := zT_tb (List.mem_append_right tables_1_1 (List.mem_append_left (tables_1_3 ++ tables_1_4) (List.mem_of_getElem? (i := 65) rfl)))
theorem q305 : (Jvm.Cond.code ({ cls := "DigitChip$Assembler", name := "isName", desc := "(Ljava/lang/String;III)Z" } : Jvm.MethodName) prog_2_method_10_code (8 : Nat) (Option.some Jvm.ClassFile.FieldType.boolean)) ∈ zT := zT_in b305 rfl
theorem b306 : (Jvm.Cond.stringRef "DigitChip$Assembler" (93 : Nat) "0123456789abcdef") ∈ lw_tbl := zT_tb (List.mem_append_right tables_1_1 (List.mem_append_left (tables_1_3 ++ tables_1_4) (List.mem_of_getElem? (i := 66) rfl)))
theorem b307 : (Jvm.Cond.methodLink "DigitChip$Assembler" (95 : Nat) ({ cls := "java/lang/String", name := "indexOf", desc := "(I)I" } : Jvm.MethodName)) ∈ lw_tbl := zT_tb (List.mem_append_right tables_1_1 (List.mem_append_left (tables_1_3 ++ tables_1_4) (List.mem_of_getElem? (i := 67) rfl)))
theorem q307 : (Jvm.Cond.methodLink "DigitChip$Assembler" (95 : Nat) ({ cls := "java/lang/String", name := "indexOf", desc := "(I)I" } : Jvm.MethodName)) ∈ zT := zT_in b307 rfl
theorem b308 : (Jvm.Cond.instanceMethod ({ cls := "java/lang/String", name := "indexOf", desc := "(I)I" } : Jvm.MethodName)) ∈ lw_tbl := zT_tb (List.mem_append_right tables_1_1 (List.mem_append_left (tables_1_3 ++ tables_1_4) (List.mem_of_getElem? (i := 68) rfl)))
theorem q308 : (Jvm.Cond.instanceMethod ({ cls := "java/lang/String", name := "indexOf", desc := "(I)I" } : Jvm.MethodName)) ∈ zT := zT_in b308 rfl
theorem b309 : (Jvm.Cond.selects "java/lang/String" ({ cls := "java/lang/String", name := "indexOf", desc := "(I)I" } : Jvm.MethodName) ({ cls := "java/lang/String", name := "indexOf", desc := "(I)I" } : Jvm.MethodName)) ∈ lw_tbl := zT_tb (List.mem_append_right tables_1_1 (List.mem_append_left (tables_1_3 ++ tables_1_4) (List.mem_of_getElem? (i := 69) rfl)))
theorem q309 : (Jvm.Cond.selects "java/lang/String" ({ cls := "java/lang/String", name := "indexOf", desc := "(I)I" } : Jvm.MethodName) ({ cls := "java/lang/String", name := "indexOf", desc := "(I)I" } : Jvm.MethodName)) ∈ zT := zT_in b309 rfl
theorem b310 : (Jvm.Cond.code ({ cls := "java/lang/String", name := "indexOf", desc := "(I)I" } : Jvm.MethodName) prog_13_method_79_code (2 : Nat) (Option.some Jvm.ClassFile.FieldType.int)) ∈ lw_tbl := zT_tb (List.mem_append_right tables_1_1 (List.mem_append_left (tables_1_3 ++ tables_1_4) (List.mem_of_getElem? (i := 70) rfl)))
theorem q310 : (Jvm.Cond.code ({ cls := "java/lang/String", name := "indexOf", desc := "(I)I" } : Jvm.MethodName) prog_13_method_79_code (2 : Nat) (Option.some Jvm.ClassFile.FieldType.int)) ∈ zT := zT_in b310 rfl
theorem b311 : (Jvm.Cond.methodLink "java/lang/String" (633 : Nat) ({ cls := "java/lang/String", name := "indexOf", desc := "(II)I" } : Jvm.MethodName)) ∈ lw_tbl := zT_tb (List.mem_append_right tables_1_1 (List.mem_append_left (tables_1_3 ++ tables_1_4) (List.mem_of_getElem? (i := 71) rfl)))
theorem q311 : (Jvm.Cond.methodLink "java/lang/String" (633 : Nat) ({ cls := "java/lang/String", name := "indexOf", desc := "(II)I" } : Jvm.MethodName)) ∈ zT := zT_in b311 rfl
theorem b312 : (Jvm.Cond.instanceMethod ({ cls := "java/lang/String", name := "indexOf", desc := "(II)I" } : Jvm.MethodName)) ∈ lw_tbl := zT_tb (List.mem_append_right tables_1_1 (List.mem_append_left (tables_1_3 ++ tables_1_4) (List.mem_of_getElem? (i := 72) rfl)))
theorem q312 : (Jvm.Cond.instanceMethod ({ cls := "java/lang/String", name := "indexOf", desc := "(II)I" } : Jvm.MethodName)) ∈ zT := zT_in b312 rfl
theorem b313 : (Jvm.Cond.selects "java/lang/String" ({ cls := "java/lang/String", name := "indexOf", desc := "(II)I" } : Jvm.MethodName) ({ cls := "java/lang/String", name := "indexOf", desc := "(II)I" } : Jvm.MethodName)) ∈ lw_tbl := zT_tb (List.mem_append_right tables_1_1 (List.mem_append_left (tables_1_3 ++ tables_1_4) (List.mem_of_getElem? (i := 73) rfl)))
theorem q313 : (Jvm.Cond.selects "java/lang/String" ({ cls := "java/lang/String", name := "indexOf", desc := "(II)I" } : Jvm.MethodName) ({ cls := "java/lang/String", name := "indexOf", desc := "(II)I" } : Jvm.MethodName)) ∈ zT := zT_in b313 rfl
theorem b314 : (Jvm.Cond.code ({ cls := "java/lang/String", name := "indexOf", desc := "(II)I" } : Jvm.MethodName) prog_13_method_80_code (3 : Nat) (Option.some Jvm.ClassFile.FieldType.int)) ∈ lw_tbl := zT_tb (List.mem_append_right tables_1_1 (List.mem_append_left (tables_1_3 ++ tables_1_4) (List.mem_of_getElem? (i := 74) rfl)))
theorem q314 : (Jvm.Cond.code ({ cls := "java/lang/String", name := "indexOf", desc := "(II)I" } : Jvm.MethodName) prog_13_method_80_code (3 : Nat) (Option.some Jvm.ClassFile.FieldType.int)) ∈ zT := zT_in b314 rfl
theorem b315 : (Jvm.Cond.methodLink "java/lang/String" (505 : Nat) ({ cls := "java/lang/String", name := "length", desc := "()I" } : Jvm.MethodName)) ∈ lw_tbl := zT_tb (List.mem_append_right tables_1_1 (List.mem_append_left (tables_1_3 ++ tables_1_4) (List.mem_of_getElem? (i := 75) rfl)))
theorem q315 : (Jvm.Cond.methodLink "java/lang/String" (505 : Nat) ({ cls := "java/lang/String", name := "length", desc := "()I" } : Jvm.MethodName)) ∈ zT := zT_in b315 rfl
theorem b316 : (Jvm.Cond.methodLink "java/lang/String" (637 : Nat) ({ cls := "java/lang/StringLatin1", name := "indexOf", desc := "([BIII)I" } : Jvm.MethodName)) ∈ lw_tbl := zT_tb (List.mem_append_right tables_1_1 (List.mem_append_left (tables_1_3 ++ tables_1_4) (List.mem_of_getElem? (i := 76) rfl)))
theorem q316 : (Jvm.Cond.methodLink "java/lang/String" (637 : Nat) ({ cls := "java/lang/StringLatin1", name := "indexOf", desc := "([BIII)I" } : Jvm.MethodName)) ∈ zT := zT_in b316 rfl
theorem b317 : (Jvm.Cond.static ({ cls := "java/lang/StringLatin1", name := "indexOf", desc := "([BIII)I" } : Jvm.MethodName)) ∈ lw_tbl := zT_tb (List.mem_append_right tables_1_1 (List.mem_append_left (tables_1_3 ++ tables_1_4) (List.mem_of_getElem? (i := 77) rfl)))
theorem q317 : (Jvm.Cond.static ({ cls := "java/lang/StringLatin1", name := "indexOf", desc := "([BIII)I" } : Jvm.MethodName)) ∈ zT := zT_in b317 rfl
theorem b318 : (Jvm.Cond.code ({ cls := "java/lang/StringLatin1", name := "indexOf", desc := "([BIII)I" } : Jvm.MethodName) prog_14_method_22_code (4 : Nat) (Option.some Jvm.ClassFile.FieldType.int)) ∈ lw_tbl := zT_tb (List.mem_append_right tables_1_1 (List.mem_append_left (tables_1_3 ++ tables_1_4) (List.mem_of_getElem? (i := 78) rfl)))
theorem q318 : (Jvm.Cond.code ({ cls := "java/lang/StringLatin1", name := "indexOf", desc := "([BIII)I" } : Jvm.MethodName) prog_14_method_22_code (4 : Nat) (Option.some Jvm.ClassFile.FieldType.int)) ∈ zT := zT_in b318 rfl
theorem b319 : (Jvm.Cond.methodLink "java/lang/StringLatin1" (88 : Nat) ({ cls := "java/lang/StringLatin1", name := "canEncode", desc := "(I)Z" } : Jvm.MethodName)) ∈ lw_tbl := zT_tb (List.mem_append_right tables_1_1 (List.mem_append_left (tables_1_3 ++ tables_1_4) (List.mem_of_getElem? (i := 79) rfl)))
theorem q319 : (Jvm.Cond.methodLink "java/lang/StringLatin1" (88 : Nat) ({ cls := "java/lang/StringLatin1", name := "canEncode", desc := "(I)Z" } : Jvm.MethodName)) ∈ zT := zT_in b319 rfl
theorem b320 : (Jvm.Cond.static ({ cls := "java/lang/StringLatin1", name := "canEncode", desc := "(I)Z" } : Jvm.MethodName)) ∈ lw_tbl := zT_tb (List.mem_append_right tables_1_1 (List.mem_append_left (tables_1_3 ++ tables_1_4) (List.mem_of_getElem? (i := 80) rfl)))
theorem q320 : (Jvm.Cond.static ({ cls := "java/lang/StringLatin1", name := "canEncode", desc := "(I)Z" } : Jvm.MethodName)) ∈ zT := zT_in b320 rfl
theorem b321 : (Jvm.Cond.code ({ cls := "java/lang/StringLatin1", name := "canEncode", desc := "(I)Z" } : Jvm.MethodName) prog_14_method_4_code (1 : Nat) (Option.some Jvm.ClassFile.FieldType.boolean)) ∈ lw_tbl := zT_tb (List.mem_append_right tables_1_1 (List.mem_append_left (tables_1_3 ++ tables_1_4) (List.mem_of_getElem? (i := 81) rfl)))
theorem q321 : (Jvm.Cond.code ({ cls := "java/lang/StringLatin1", name := "canEncode", desc := "(I)Z" } : Jvm.MethodName) prog_14_method_4_code (1 : Nat) (Option.some Jvm.ClassFile.FieldType.boolean)) ∈ zT := zT_in b321 rfl
theorem b322 : (Jvm.Cond.methodLink "java/lang/StringLatin1" (92 : Nat) ({ cls := "java/lang/Math", name := "max", desc := "(II)I" } : Jvm.MethodName)) ∈ lw_tbl := zT_tb (List.mem_append_right tables_1_1 (List.mem_append_left (tables_1_3 ++ tables_1_4) (List.mem_of_getElem? (i := 82) rfl)))
theorem q322 : (Jvm.Cond.methodLink "java/lang/StringLatin1" (92 : Nat) ({ cls := "java/lang/Math", name := "max", desc := "(II)I" } : Jvm.MethodName)) ∈ zT := zT_in b322 rfl
theorem b323 : (Jvm.Cond.static ({ cls := "java/lang/Math", name := "max", desc := "(II)I" } : Jvm.MethodName)) ∈ lw_tbl := zT_tb (List.mem_append_right tables_1_1 (List.mem_append_left (tables_1_3 ++ tables_1_4) (List.mem_of_getElem? (i := 83) rfl)))
theorem q323 : (Jvm.Cond.static ({ cls := "java/lang/Math", name := "max", desc := "(II)I" } : Jvm.MethodName)) ∈ zT := zT_in b323 rfl
theorem b324 : (Jvm.Cond.code ({ cls := "java/lang/Math", name := "max", desc := "(II)I" } : Jvm.MethodName) prog_11_method_65_code (2 : Nat) (Option.some Jvm.ClassFile.FieldType.int)) ∈ lw_tbl := zT_tb (List.mem_append_right tables_1_1 (List.mem_append_left (tables_1_3 ++ tables_1_4) (List.mem_of_getElem? (i := 84) rfl)))
theorem q324 : (Jvm.Cond.code ({ cls := "java/lang/Math", name := "max", desc := "(II)I" } : Jvm.MethodName) prog_11_method_65_code (2 : Nat) (Option.some Jvm.ClassFile.FieldType.int)) ∈ zT := zT_in b324 rfl
theorem b325 : (Jvm.Cond.methodLink "java/lang/StringLatin1" (38 : Nat) ({ cls := "java/lang/Math", name := "min", desc := "(II)I" } : Jvm.MethodName)) ∈ lw_tbl := zT_tb (List.mem_append_right tables_1_1 (List.mem_append_left (tables_1_3 ++ tables_1_4) (List.mem_of_getElem? (i := 85) rfl)))
theorem q325 : (Jvm.Cond.methodLink "java/lang/StringLatin1" (38 : Nat) ({ cls := "java/lang/Math", name := "min", desc := "(II)I" } : Jvm.MethodName)) ∈ zT := zT_in b325 rfl
theorem b326 : (Jvm.Cond.static ({ cls := "java/lang/Math", name := "min", desc := "(II)I" } : Jvm.MethodName)) ∈ lw_tbl := zT_tb (List.mem_append_right tables_1_1 (List.mem_append_left (tables_1_3 ++ tables_1_4) (List.mem_of_getElem? (i := 86) rfl)))
theorem q326 : (Jvm.Cond.static ({ cls := "java/lang/Math", name := "min", desc := "(II)I" } : Jvm.MethodName)) ∈ zT := zT_in b326 rfl
theorem b327 : (Jvm.Cond.code ({ cls := "java/lang/Math", name := "min", desc := "(II)I" } : Jvm.MethodName) prog_11_method_69_code (2 : Nat) (Option.some Jvm.ClassFile.FieldType.int)) ∈ lw_tbl := zT_tb (List.mem_append_right tables_1_1 (List.mem_append_left (tables_1_3 ++ tables_1_4) (List.mem_of_getElem? (i := 87) rfl)))
theorem q327 : (Jvm.Cond.code ({ cls := "java/lang/Math", name := "min", desc := "(II)I" } : Jvm.MethodName) prog_11_method_69_code (2 : Nat) (Option.some Jvm.ClassFile.FieldType.int)) ∈ zT := zT_in b327 rfl
theorem b328 : (Jvm.Cond.methodLink "java/lang/StringLatin1" (95 : Nat) ({ cls := "java/lang/StringLatin1", name := "indexOfChar", desc := "([BIII)I" } : Jvm.MethodName)) ∈ lw_tbl := zT_tb (List.mem_append_right tables_1_1 (List.mem_append_left (tables_1_3 ++ tables_1_4) (List.mem_of_getElem? (i := 88) rfl)))
theorem q328 : (Jvm.Cond.methodLink "java/lang/StringLatin1" (95 : Nat) ({ cls := "java/lang/StringLatin1", name := "indexOfChar", desc := "([BIII)I" } : Jvm.MethodName)) ∈ zT := zT_in b328 rfl
theorem b329 : (Jvm.Cond.static ({ cls := "java/lang/StringLatin1", name := "indexOfChar", desc := "([BIII)I" } : Jvm.MethodName)) ∈ lw_tbl := zT_tb (List.mem_append_right tables_1_1 (List.mem_append_left (tables_1_3 ++ tables_1_4) (List.mem_of_getElem? (i := 89) rfl)))
theorem q329 : (Jvm.Cond.static ({ cls := "java/lang/StringLatin1", name := "indexOfChar", desc := "([BIII)I" } : Jvm.MethodName)) ∈ zT := zT_in b329 rfl
theorem b330 : (Jvm.Cond.code ({ cls := "java/lang/StringLatin1", name := "indexOfChar", desc := "([BIII)I" } : Jvm.MethodName) prog_14_method_23_code (6 : Nat) (Option.some Jvm.ClassFile.FieldType.int)) ∈ lw_tbl := zT_tb (List.mem_append_right tables_1_1 (List.mem_append_left (tables_1_3 ++ tables_1_4) (List.mem_of_getElem? (i := 90) rfl)))
theorem q330 : (Jvm.Cond.code ({ cls := "java/lang/StringLatin1", name := "indexOfChar", desc := "([BIII)I" } : Jvm.MethodName) prog_14_method_23_code (6 : Nat) (Option.some Jvm.ClassFile.FieldType.int)) ∈ zT := zT_in b330 rfl
theorem b331 : (Jvm.Cond.methodLink "java/lang/String" (640 : Nat) ({ cls := "java/lang/StringUTF16", name := "indexOf", desc := "([BIII)I" } : Jvm.MethodName)) ∈ lw_tbl := zT_tb (List.mem_append_right tables_1_1 (List.mem_append_left (tables_1_3 ++ tables_1_4) (List.mem_of_getElem? (i := 91) rfl)))
theorem q331 : (Jvm.Cond.methodLink "java/lang/String" (640 : Nat) ({ cls := "java/lang/StringUTF16", name := "indexOf", desc := "([BIII)I" } : Jvm.MethodName)) ∈ zT := zT_in b331 rfl
theorem b332 : (Jvm.Cond.static ({ cls := "java/lang/StringUTF16", name := "indexOf", desc := "([BIII)I" } : Jvm.MethodName)) ∈ lw_tbl := zT_tb (List.mem_append_right tables_1_1 (List.mem_append_left (tables_1_3 ++ tables_1_4) (List.mem_of_getElem? (i := 92) rfl)))
theorem q332 : (Jvm.Cond.static ({ cls := "java/lang/StringUTF16", name := "indexOf", desc := "([BIII)I" } : Jvm.MethodName)) ∈ zT := zT_in b332 rfl
theorem b333 : (Jvm.Cond.code ({ cls := "java/lang/StringUTF16", name := "indexOf", desc := "([BIII)I" } : Jvm.MethodName) prog_15_method_40_code (4 : Nat) (Option.some Jvm.ClassFile.FieldType.int)) ∈ lw_tbl := zT_tb (List.mem_append_right tables_1_1 (List.mem_append_left (tables_1_3 ++ tables_1_4) (List.mem_of_getElem? (i := 93) rfl)))
theorem q333 : (Jvm.Cond.code ({ cls := "java/lang/StringUTF16", name := "indexOf", desc := "([BIII)I" } : Jvm.MethodName) prog_15_method_40_code (4 : Nat) (Option.some Jvm.ClassFile.FieldType.int)) ∈ zT := zT_in b333 rfl
theorem b334 : (Jvm.Cond.methodLink "java/lang/StringUTF16" (224 : Nat) ({ cls := "java/lang/Math", name := "max", desc := "(II)I" } : Jvm.MethodName)) ∈ lw_tbl := zT_tb (List.mem_append_right tables_1_1 (List.mem_append_left (tables_1_3 ++ tables_1_4) (List.mem_of_getElem? (i := 94) rfl)))
theorem q334 : (Jvm.Cond.methodLink "java/lang/StringUTF16" (224 : Nat) ({ cls := "java/lang/Math", name := "max", desc := "(II)I" } : Jvm.MethodName)) ∈ zT := zT_in b334 rfl
theorem b335 : (Jvm.Cond.methodLink "java/lang/StringUTF16" (183 : Nat) ({ cls := "java/lang/Math", name := "min", desc := "(II)I" } : Jvm.MethodName)) ∈ lw_tbl := zT_tb (List.mem_append_right tables_1_1 (List.mem_append_left (tables_1_3 ++ tables_1_4) (List.mem_of_getElem? (i := 95) rfl)))
theorem q335 : (Jvm.Cond.methodLink "java/lang/StringUTF16" (183 : Nat) ({ cls := "java/lang/Math", name := "min", desc := "(II)I" } : Jvm.MethodName)) ∈ zT := zT_in b335 rfl
theorem b336 : (Jvm.Cond.constant "java/lang/StringUTF16" (227 : Nat) (65536 : Int32)) ∈ lw_tbl := zT_tb (List.mem_append_right tables_1_1 (List.mem_append_left (tables_1_3 ++ tables_1_4) (List.mem_of_getElem? (i := 96) rfl)))
theorem q336 : (Jvm.Cond.constant "java/lang/StringUTF16" (227 : Nat) (65536 : Int32)) ∈ zT := zT_in b336 rfl
theorem b337 : (Jvm.Cond.methodLink "java/lang/StringUTF16" (228 : Nat) ({ cls := "java/lang/StringUTF16", name := "indexOfChar", desc := "([BIII)I" } : Jvm.MethodName)) ∈ lw_tbl := zT_tb (List.mem_append_right tables_1_1 (List.mem_append_left (tables_1_3 ++ tables_1_4) (List.mem_of_getElem? (i := 97) rfl)))
theorem q337 : (Jvm.Cond.methodLink "java/lang/StringUTF16" (228 : Nat) ({ cls := "java/lang/StringUTF16", name := "indexOfChar", desc := "([BIII)I" } : Jvm.MethodName)) ∈ zT := zT_in b337 rfl
theorem b338 : (Jvm.Cond.static ({ cls := "java/lang/StringUTF16", name := "indexOfChar", desc := "([BIII)I" } : Jvm.MethodName)) ∈ lw_tbl := zT_tb (List.mem_append_right tables_1_1 (List.mem_append_left (tables_1_3 ++ tables_1_4) (List.mem_of_getElem? (i := 98) rfl)))
theorem q338 : (Jvm.Cond.static ({ cls := "java/lang/StringUTF16", name := "indexOfChar", desc := "([BIII)I" } : Jvm.MethodName)) ∈ zT := zT_in b338 rfl
theorem b339 : (Jvm.Cond.code ({ cls := "java/lang/StringUTF16", name := "indexOfChar", desc := "([BIII)I" } : Jvm.MethodName) prog_15_method_47_code (4 : Nat) (Option.some Jvm.ClassFile.FieldType.int)) ∈ lw_tbl := zT_tb (List.mem_append_right tables_1_1 (List.mem_append_left (tables_1_3 ++ tables_1_4) (List.mem_of_getElem? (i := 99) rfl)))
theorem q339 : (Jvm.Cond.code ({ cls := "java/lang/StringUTF16", name := "indexOfChar", desc := "([BIII)I" } : Jvm.MethodName) prog_15_method_47_code (4 : Nat) (Option.some Jvm.ClassFile.FieldType.int)) ∈ zT := zT_in b339 rfl
theorem b340 : (Jvm.Cond.methodLink "java/lang/StringUTF16" (96 : Nat) ({ cls := "java/lang/StringUTF16", name := "checkBoundsBeginEnd", desc := "(II[B)V" } : Jvm.MethodName)) ∈ lw_tbl := zT_tb (List.mem_append_right tables_1_1 (List.mem_append_left (tables_1_3 ++ tables_1_4) (List.mem_of_getElem? (i := 100) rfl)))
theorem q340 : (Jvm.Cond.methodLink "java/lang/StringUTF16" (96 : Nat) ({ cls := "java/lang/StringUTF16", name := "checkBoundsBeginEnd", desc := "(II[B)V" } : Jvm.MethodName)) ∈ zT := zT_in b340 rfl
theorem b341 : (Jvm.Cond.static ({ cls := "java/lang/StringUTF16", name := "checkBoundsBeginEnd", desc := "(II[B)V" } : Jvm.MethodName)) ∈ lw_tbl := zT_tb (List.mem_append_right tables_1_1 (List.mem_append_left (tables_1_3 ++ tables_1_4) (List.mem_of_getElem? (i := 101) rfl)))
theorem q341 : (Jvm.Cond.static ({ cls := "java/lang/StringUTF16", name := "checkBoundsBeginEnd", desc := "(II[B)V" } : Jvm.MethodName)) ∈ zT := zT_in b341 rfl
theorem b342 : (Jvm.Cond.code ({ cls := "java/lang/StringUTF16", name := "checkBoundsBeginEnd", desc := "(II[B)V" } : Jvm.MethodName) prog_15_method_93_code (3 : Nat) (Option.none : Option Jvm.ClassFile.FieldType)) ∈ lw_tbl := zT_tb (List.mem_append_right tables_1_1 (List.mem_append_left (tables_1_3 ++ tables_1_4) (List.mem_of_getElem? (i := 102) rfl)))
theorem q342 : (Jvm.Cond.code ({ cls := "java/lang/StringUTF16", name := "checkBoundsBeginEnd", desc := "(II[B)V" } : Jvm.MethodName) prog_15_method_93_code (3 : Nat) (Option.none : Option Jvm.ClassFile.FieldType)) ∈ zT := zT_in b342 rfl
theorem b343 : (Jvm.Cond.methodLink "java/lang/StringUTF16" (241 : Nat) ({ cls := "java/lang/String", name := "checkBoundsBeginEnd", desc := "(III)V" } : Jvm.MethodName)) ∈ lw_tbl := zT_tb (List.mem_append_right tables_1_1 (List.mem_append_left (tables_1_3 ++ tables_1_4) (List.mem_of_getElem? (i := 103) rfl)))
theorem q343 : (Jvm.Cond.methodLink "java/lang/StringUTF16" (241 : Nat) ({ cls := "java/lang/String", name := "checkBoundsBeginEnd", desc := "(III)V" } : Jvm.MethodName)) ∈ zT := zT_in b343 rfl
theorem b344 : (Jvm.Cond.static ({ cls := "java/lang/String", name := "checkBoundsBeginEnd", desc := "(III)V" } : Jvm.MethodName)) ∈ lw_tbl := zT_tb (List.mem_append_right tables_1_1 (List.mem_append_left (tables_1_3 ++ tables_1_4) (List.mem_of_getElem? (i := 104) rfl)))
theorem q344 : (Jvm.Cond.static ({ cls := "java/lang/String", name := "checkBoundsBeginEnd", desc := "(III)V" } : Jvm.MethodName)) ∈ zT := zT_in b344 rfl
theorem b345 : (Jvm.Cond.code ({ cls := "java/lang/String", name := "checkBoundsBeginEnd", desc := "(III)V" } : Jvm.MethodName) prog_13_method_158_code (3 : Nat) (Option.none : Option Jvm.ClassFile.FieldType)) ∈ lw_tbl := zT_tb (List.mem_append_right tables_1_1 (List.mem_append_left (tables_1_3 ++ tables_1_4) (List.mem_of_getElem? (i := 105) rfl)))
theorem q345 : (Jvm.Cond.code ({ cls := "java/lang/String", name := "checkBoundsBeginEnd", desc := "(III)V" } : Jvm.MethodName) prog_13_method_158_code (3 : Nat) (Option.none : Option Jvm.ClassFile.FieldType)) ∈ zT := zT_in b345 rfl
theorem b346 : (Jvm.Cond.methodLink "java/lang/String" (1062 : Nat) ({ cls := "jdk/internal/util/Preconditions", name := "checkFromToIndex", desc := "(IIILjava/util/function/BiFunction;)I" } : Jvm.MethodName)) ∈ lw_tbl := zT_tb (List.mem_append_right tables_1_1 (List.mem_append_left (tables_1_3 ++ tables_1_4) (List.mem_of_getElem? (i := 106) rfl)))
theorem q346 : (Jvm.Cond.methodLink "java/lang/String" (1062 : Nat) ({ cls := "jdk/internal/util/Preconditions", name := "checkFromToIndex", desc := "(IIILjava/util/function/BiFunction;)I" } : Jvm.MethodName)) ∈ zT := zT_in b346 rfl
theorem b347 : (Jvm.Cond.static ({ cls := "jdk/internal/util/Preconditions", name := "checkFromToIndex", desc := "(IIILjava/util/function/BiFunction;)I" } : Jvm.MethodName)) ∈ lw_tbl := zT_tb (List.mem_append_right tables_1_1 (List.mem_append_left (tables_1_3 ++ tables_1_4) (List.mem_of_getElem? (i := 107) rfl)))
theorem q347 : (Jvm.Cond.static ({ cls := "jdk/internal/util/Preconditions", name := "checkFromToIndex", desc := "(IIILjava/util/function/BiFunction;)I" } : Jvm.MethodName)) ∈ zT := zT_in b347 rfl
theorem b348 : (Jvm.Cond.code ({ cls := "jdk/internal/util/Preconditions", name := "checkFromToIndex", desc := "(IIILjava/util/function/BiFunction;)I" } : Jvm.MethodName) prog_18_method_12_code (4 : Nat) (Option.some Jvm.ClassFile.FieldType.int)) ∈ lw_tbl := zT_tb (List.mem_append_right tables_1_1 (List.mem_append_left (tables_1_3 ++ tables_1_4) (List.mem_of_getElem? (i := 108) rfl)))
theorem q348 : (Jvm.Cond.code ({ cls := "jdk/internal/util/Preconditions", name := "checkFromToIndex", desc := "(IIILjava/util/function/BiFunction;)I" } : Jvm.MethodName) prog_18_method_12_code (4 : Nat) (Option.some Jvm.ClassFile.FieldType.int)) ∈ zT := zT_in b348 rfl
theorem b349 : (Jvm.Cond.methodLink "java/lang/StringUTF16" (244 : Nat) ({ cls := "java/lang/StringUTF16", name := "indexOfCharUnsafe", desc := "([BIII)I" } : Jvm.MethodName)) ∈ lw_tbl := zT_tb (List.mem_append_right tables_1_1 (List.mem_append_left (tables_1_3 ++ tables_1_4) (List.mem_of_getElem? (i := 109) rfl)))
theorem q349 : (Jvm.Cond.methodLink "java/lang/StringUTF16" (244 : Nat) ({ cls := "java/lang/StringUTF16", name := "indexOfCharUnsafe", desc := "([BIII)I" } : Jvm.MethodName)) ∈ zT := zT_in b349 rfl
theorem b350 : (Jvm.Cond.static ({ cls := "java/lang/StringUTF16", name := "indexOfCharUnsafe", desc := "([BIII)I" } : Jvm.MethodName)) ∈ lw_tbl := zT_tb (List.mem_append_right tables_1_1 (List.mem_append_left (tables_1_3 ++ tables_1_4) (List.mem_of_getElem? (i := 110) rfl)))
theorem q350 : (Jvm.Cond.static ({ cls := "java/lang/StringUTF16", name := "indexOfCharUnsafe", desc := "([BIII)I" } : Jvm.MethodName)) ∈ zT := zT_in b350 rfl
theorem b351 : (Jvm.Cond.code ({ cls := "java/lang/StringUTF16", name := "indexOfCharUnsafe", desc := "([BIII)I" } : Jvm.MethodName) prog_15_method_48_code (5 : Nat) (Option.some Jvm.ClassFile.FieldType.int)) ∈ lw_tbl := zT_tb (List.mem_append_right tables_1_1 (List.mem_append_left (tables_1_3 ++ tables_1_4) (List.mem_of_getElem? (i := 111) rfl)))
theorem q351 : (Jvm.Cond.code ({ cls := "java/lang/StringUTF16", name := "indexOfCharUnsafe", desc := "([BIII)I" } : Jvm.MethodName) prog_15_method_48_code (5 : Nat) (Option.some Jvm.ClassFile.FieldType.int)) ∈ zT := zT_in b351 rfl
theorem b352 : (Jvm.Cond.methodLink "java/lang/StringUTF16" (232 : Nat) ({ cls := "java/lang/StringUTF16", name := "indexOfSupplementary", desc := "([BIII)I" } : Jvm.MethodName)) ∈ lw_tbl := zT_tb (List.mem_append_right tables_1_1 (List.mem_append_left (tables_1_3 ++ tables_1_4) (List.mem_of_getElem? (i := 112) rfl)))
theorem q352 : (Jvm.Cond.methodLink "java/lang/StringUTF16" (232 : Nat) ({ cls := "java/lang/StringUTF16", name := "indexOfSupplementary", desc := "([BIII)I" } : Jvm.MethodName)) ∈ zT := zT_in b352 rfl
theorem b353 : (Jvm.Cond.static ({ cls := "java/lang/StringUTF16", name := "indexOfSupplementary", desc := "([BIII)I" } : Jvm.MethodName)) ∈ lw_tbl := zT_tb (List.mem_append_right tables_1_1 (List.mem_append_left (tables_1_3 ++ tables_1_4) (List.mem_of_getElem? (i := 113) rfl)))
theorem q353 : (Jvm.Cond.static ({ cls := "java/lang/StringUTF16", name := "indexOfSupplementary", desc := "([BIII)I" } : Jvm.MethodName)) ∈ zT := zT_in b353 rfl
theorem b354 : (Jvm.Cond.code ({ cls := "java/lang/StringUTF16", name := "indexOfSupplementary", desc := "([BIII)I" } : Jvm.MethodName) prog_15_method_49_code (7 : Nat) (Option.some Jvm.ClassFile.FieldType.int)) ∈ lw_tbl := zT_tb (List.mem_append_right tables_1_1 (List.mem_append_left (tables_1_3 ++ tables_1_4) (List.mem_of_getElem? (i := 114) rfl)))
theorem q354 : (Jvm.Cond.code ({ cls := "java/lang/StringUTF16", name := "indexOfSupplementary", desc := "([BIII)I" } : Jvm.MethodName) prog_15_method_49_code (7 : Nat) (Option.some Jvm.ClassFile.FieldType.int)) ∈ zT := zT_in b354 rfl
theorem b355 : (Jvm.Cond.methodLink "java/lang/StringUTF16" (164 : Nat) ({ cls := "java/lang/Character", name := "isValidCodePoint", desc := "(I)Z" } : Jvm.MethodName)) ∈ lw_tbl := zT_tb (List.mem_append_right tables_1_1 (List.mem_append_left (tables_1_3 ++ tables_1_4) (List.mem_of_getElem? (i := 115) rfl)))
theorem q355 : (Jvm.Cond.methodLink "java/lang/StringUTF16" (164 : Nat) ({ cls := "java/lang/Character", name := "isValidCodePoint", desc := "(I)Z" } : Jvm.MethodName)) ∈ zT := zT_in b355 rfl
theorem b356 : (Jvm.Cond.static ({ cls := "java/lang/Character", name := "isValidCodePoint", desc := "(I)Z" } : Jvm.MethodName)) ∈ lw_tbl := zT_tb (List.mem_append_right tables_1_1 (List.mem_append_left (tables_1_3 ++ tables_1_4) (List.mem_of_getElem? (i := 116) rfl)))
theorem q356 : (Jvm.Cond.static ({ cls := "java/lang/Character", name := "isValidCodePoint", desc := "(I)Z" } : Jvm.MethodName)) ∈ zT := zT_in b356 rfl
theorem b357 : (Jvm.Cond.code ({ cls := "java/lang/Character", name := "isValidCodePoint", desc := "(I)Z" } : Jvm.MethodName) prog_8_method_11_code (2 : Nat) (Option.some Jvm.ClassFile.FieldType.boolean)) ∈ lw_tbl := zT_tb (List.mem_append_right tables_1_1 (List.mem_append_left (tables_1_3 ++ tables_1_4) (List.mem_of_getElem? (i := 117) rfl)))
theorem q357 : (Jvm.Cond.code ({ cls := "java/lang/Character", name := "isValidCodePoint", desc := "(I)Z" } : Jvm.MethodName) prog_8_method_11_code (2 : Nat) (Option.some Jvm.ClassFile.FieldType.boolean)) ∈ zT := zT_in b357 rfl
theorem b358 : (Jvm.Cond.methodLink "java/lang/StringUTF16" (157 : Nat) ({ cls := "java/lang/Character", name := "highSurrogate", desc := "(I)C" } : Jvm.MethodName)) ∈ lw_tbl := zT_tb (List.mem_append_right tables_1_1 (List.mem_append_left (tables_1_3 ++ tables_1_4) (List.mem_of_getElem? (i := 118) rfl)))
theorem q358 : (Jvm.Cond.methodLink "java/lang/StringUTF16" (157 : Nat) ({ cls := "java/lang/Character", name := "highSurrogate", desc := "(I)C" } : Jvm.MethodName)) ∈ zT := zT_in b358 rfl
theorem b359 : (Jvm.Cond.static ({ cls := "java/lang/Character", name := "highSurrogate", desc := "(I)C" } : Jvm.MethodName)) ∈ lw_tbl := zT_tb (List.mem_append_right tables_1_1 (List.mem_append_left (tables_1_3 ++ tables_1_4) (List.mem_of_getElem? (i := 119) rfl)))
theorem q359 : (Jvm.Cond.static ({ cls := "java/lang/Character", name := "highSurrogate", desc := "(I)C" } : Jvm.MethodName)) ∈ zT := zT_in b359 rfl
theorem b360 : (Jvm.Cond.code ({ cls := "java/lang/Character", name := "highSurrogate", desc := "(I)C" } : Jvm.MethodName) prog_8_method_28_code (1 : Nat) (Option.some Jvm.ClassFile.FieldType.char)) ∈ lw_tbl := zT_tb (List.mem_append_right tables_1_1 (List.mem_append_left (tables_1_3 ++ tables_1_4) (List.mem_of_getElem? (i := 120) rfl)))
theorem q360 : (Jvm.Cond.code ({ cls := "java/lang/Character", name := "highSurrogate", desc := "(I)C" } : Jvm.MethodName) prog_8_method_28_code (1 : Nat) (Option.some Jvm.ClassFile.FieldType.char)) ∈ zT := zT_in b360 rfl
theorem b361 : (Jvm.Cond.constant "java/lang/Character" (110 : Nat) (55232 : Int32)) ∈ lw_tbl := zT_tb (List.mem_append_right tables_1_1 (List.mem_append_left (tables_1_3 ++ tables_1_4) (List.mem_of_getElem? (i := 121) rfl)))
theorem q361 : (Jvm.Cond.constant "java/lang/Character" (110 : Nat) (55232 : Int32)) ∈ zT := zT_in b361 rfl
theorem b362 : (Jvm.Cond.methodLink "java/lang/StringUTF16" (161 : Nat) ({ cls := "java/lang/Character", name := "lowSurrogate", desc := "(I)C" } : Jvm.MethodName)) ∈ lw_tbl := zT_tb (List.mem_append_right tables_1_1 (List.mem_append_left (tables_1_3 ++ tables_1_4) (List.mem_of_getElem? (i := 122) rfl)))
theorem q362 : (Jvm.Cond.methodLink "java/lang/StringUTF16" (161 : Nat) ({ cls := "java/lang/Character", name := "lowSurrogate", desc := "(I)C" } : Jvm.MethodName)) ∈ zT := zT_in b362 rfl
theorem b363 : (Jvm.Cond.static ({ cls := "java/lang/Character", name := "lowSurrogate", desc := "(I)C" } : Jvm.MethodName)) ∈ lw_tbl := zT_tb (List.mem_append_right tables_1_1 (List.mem_append_left (tables_1_3 ++ tables_1_4) (List.mem_of_getElem? (i := 123) rfl)))
theorem q363 : (Jvm.Cond.static ({ cls := "java/lang/Character", name := "lowSurrogate", desc := "(I)C" } : Jvm.MethodName)) ∈ zT := zT_in b363 rfl
theorem b364 : (Jvm.Cond.code ({ cls := "java/lang/Character", name := "lowSurrogate", desc := "(I)C" } : Jvm.MethodName) prog_8_method_29_code (1 : Nat) (Option.some Jvm.ClassFile.FieldType.char)) ∈ lw_tbl := zT_tb (List.mem_append_right tables_1_1 (List.mem_append_left (tables_1_3 ++ tables_1_4) (List.mem_of_getElem? (i := 124) rfl)))
theorem q364 : (Jvm.Cond.code ({ cls := "java/lang/Character", name := "lowSurrogate", desc := "(I)C" } : Jvm.MethodName) prog_8_method_29_code (1 : Nat) (Option.some Jvm.ClassFile.FieldType.char)) ∈ zT := zT_in b364 rfl
theorem b365 : (Jvm.Cond.constant "java/lang/Character" (76 : Nat) (56320 : Int32)) ∈ lw_tbl := zT_tb (List.mem_append_right tables_1_1 (List.mem_append_left (tables_1_3 ++ tables_1_4) (List.mem_of_getElem? (i := 125) rfl)))
theorem q365 : (Jvm.Cond.constant "java/lang/Character" (76 : Nat) (56320 : Int32)) ∈ zT := zT_in b365 rfl
theorem b366 : (Jvm.Cond.stringRef "DigitChip$Assembler" (98 : Nat) "pqexsmnw") ∈ lw_tbl := zT_tb (List.mem_append_right tables_1_1 (List.mem_append_left (tables_1_3 ++ tables_1_4) (List.mem_of_getElem? (i := 126) rfl)))
theorem b367 : (Jvm.Cond.methodLink "DigitChip$Assembler" (72 : Nat) ({ cls := "DigitChip$Assembler", name := "takeLabel", desc := "(I)Z" } : Jvm.MethodName)) ∈ lw_tbl := zT_tb (List.mem_append_right tables_1_1 (List.mem_append_left (tables_1_3 ++ tables_1_4) (List.mem_of_getElem? (i := 127) rfl)))
theorem q367 : (Jvm.Cond.methodLink "DigitChip$Assembler" (72 : Nat) ({ cls := "DigitChip$Assembler", name := "takeLabel", desc := "(I)Z" } : Jvm.MethodName)) ∈ zT := zT_in b367 rfl
theorem b368 : (Jvm.Cond.privateMethod ({ cls := "DigitChip$Assembler", name := "takeLabel", desc := "(I)Z" } : Jvm.MethodName)) ∈ lw_tbl := zT_tb (List.mem_append_right tables_1_1 (List.mem_append_left (tables_1_3 ++ tables_1_4) (List.mem_of_getElem? (i := 128) rfl)))
theorem b369 : (Jvm.Cond.instanceMethod ({ cls := "DigitChip$Assembler", name := "takeLabel", desc := "(I)Z" } : Jvm.MethodName)) ∈ lw_tbl := zT_tb (List.mem_append_right tables_1_1 (List.mem_append_left (tables_1_3 ++ tables_1_4) (List.mem_of_getElem? (i := 129) rfl)))
theorem q369 : (Jvm.Cond.instanceMethod ({ cls := "DigitChip$Assembler", name := "takeLabel", desc := "(I)Z" } : Jvm.MethodName)) ∈ zT := zT_in b369 rfl
theorem b370 : (Jvm.Cond.code ({ cls := "DigitChip$Assembler", name := "takeLabel", desc := "(I)Z" } : Jvm.MethodName) prog_2_method_7_code (2 : Nat) (Option.some Jvm.ClassFile.FieldType.boolean)) ∈ lw_tbl := zT_tb (List.mem_append_right tables_1_1 (List.mem_append_left (tables_1_3 ++ tables_1_4) (List.mem_of_getElem? (i := 130) rfl)))
theorem q370 : (Jvm.Cond.code ({ cls := "DigitChip$Assembler", name := "takeLabel", desc := "(I)Z" } : Jvm.MethodName) prog_2_method_7_code (2 : Nat) (Option.some Jvm.ClassFile.FieldType.boolean)) ∈ zT := zT_in b370 rfl
theorem b371 : (Jvm.Cond.methodLink "DigitChip$Assembler" (75 : Nat) ({ cls := "DigitChip$Assembler", name := "wordOfName", desc := "(II)I" } : Jvm.MethodName)) ∈ lw_tbl := zT_tb (List.mem_append_right tables_1_1 (List.mem_append_left (tables_1_3 ++ tables_1_4) (List.mem_of_getElem? (i := 131) rfl)))
theorem q371 : (Jvm.Cond.methodLink "DigitChip$Assembler" (75 : Nat) ({ cls := "DigitChip$Assembler", name := "wordOfName", desc := "(II)I" } : Jvm.MethodName)) ∈ zT := zT_in b371 rfl
theorem b372 : (Jvm.Cond.privateMethod ({ cls := "DigitChip$Assembler", name := "wordOfName", desc := "(II)I" } : Jvm.MethodName)) ∈ lw_tbl := zT_tb (List.mem_append_right tables_1_1 (List.mem_append_left (tables_1_3 ++ tables_1_4) (List.mem_of_getElem? (i := 132) rfl)))
theorem b373 : (Jvm.Cond.instanceMethod ({ cls := "DigitChip$Assembler", name := "wordOfName", desc := "(II)I" } : Jvm.MethodName)) ∈ lw_tbl := zT_tb (List.mem_append_right tables_1_1 (List.mem_append_left (tables_1_3 ++ tables_1_4) (List.mem_of_getElem? (i := 133) rfl)))
theorem q373 : (Jvm.Cond.instanceMethod ({ cls := "DigitChip$Assembler", name := "wordOfName", desc := "(II)I" } : Jvm.MethodName)) ∈ zT := zT_in b373 rfl
theorem b374 : (Jvm.Cond.code ({ cls := "DigitChip$Assembler", name := "wordOfName", desc := "(II)I" } : Jvm.MethodName) prog_2_method_8_code (4 : Nat) (Option.some Jvm.ClassFile.FieldType.int)) ∈ lw_tbl := zT_tb (List.mem_append_right tables_1_1 (List.mem_append_left (tables_1_3 ++ tables_1_4) (List.mem_of_getElem? (i := 134) rfl)))
theorem q374 : (Jvm.Cond.code ({ cls := "DigitChip$Assembler", name := "wordOfName", desc := "(II)I" } : Jvm.MethodName) prog_2_method_8_code (4 : Nat) (Option.some Jvm.ClassFile.FieldType.int)) ∈ zT := zT_in b374 rfl
theorem b375 : (Jvm.Cond.stringRef "DigitChip$Assembler" (79 : Nat) "no p=N ?p=N sN+ sN- ?sN lN p+ p- push pop back key stop C:M down") ∈ lw_tbl := zT_tb (List.mem_append_right tables_1_1 (List.mem_append_left (tables_1_3 ++ tables_1_4) (List.mem_of_getElem? (i := 135) rfl)))
theorem b376 : (Jvm.Cond.stringRef "DigitChip$Assembler" (81 : Nat) "A=0.F B=0.F C=0.F A:B.F B=A.F A:C.F C=B.F B:C.F A=A+B.F A=A+C.F C=A+C.F A=A+1.F C=C+1.F A=A-B.F A=A-C.F C=A-C.F A=A-1.F C=C-1.F C=-C.F C=-C-1.F A<.F A>.F B>.F C>.F ?A<B.F ?A<C.F ?B.F ?C.F ?A=0.F ?C=0.F C=C+C.F A=C.F") ∈ lw_tbl := zT_tb (List.mem_append_right tables_1_1 (List.mem_append_left (tables_1_3 ++ tables_1_4) (List.mem_of_getElem? (i := 136) rfl)))
theorem b377 : (Jvm.Cond.stringRef "DigitChip$Assembler" (83 : Nat) "@L >L") ∈ lw_tbl := zT_tb (List.mem_append_right tables_1_1 (List.mem_append_left (tables_1_3 ++ tables_1_4) (List.mem_of_getElem? (i := 137) rfl)))
theorem b378 : (Jvm.Cond.methodLink "DigitChip$Assembler" (63 : Nat) ({ cls := "DigitChip$Assembler", name := "fillInLabels", desc := "()V" } : Jvm.MethodName)) ∈ lw_tbl := zT_tb (List.mem_append_right tables_1_1 (List.mem_append_left (tables_1_3 ++ tables_1_4) (List.mem_of_getElem? (i := 138) rfl)))
theorem q378 : (Jvm.Cond.methodLink "DigitChip$Assembler" (63 : Nat) ({ cls := "DigitChip$Assembler", name := "fillInLabels", desc := "()V" } : Jvm.MethodName)) ∈ zT := zT_in b378 rfl
theorem b379 : (Jvm.Cond.privateMethod ({ cls := "DigitChip$Assembler", name := "fillInLabels", desc := "()V" } : Jvm.MethodName)) ∈ lw_tbl := zT_tb (List.mem_append_right tables_1_1 (List.mem_append_left (tables_1_3 ++ tables_1_4) (List.mem_of_getElem? (i := 139) rfl)))
theorem b380 : (Jvm.Cond.instanceMethod ({ cls := "DigitChip$Assembler", name := "fillInLabels", desc := "()V" } : Jvm.MethodName)) ∈ lw_tbl := zT_tb (List.mem_append_right tables_1_1 (List.mem_append_left (tables_1_3 ++ tables_1_4) (List.mem_of_getElem? (i := 140) rfl)))
theorem q380 : (Jvm.Cond.instanceMethod ({ cls := "DigitChip$Assembler", name := "fillInLabels", desc := "()V" } : Jvm.MethodName)) ∈ zT := zT_in b380 rfl
theorem b381 : (Jvm.Cond.code ({ cls := "DigitChip$Assembler", name := "fillInLabels", desc := "()V" } : Jvm.MethodName) prog_2_method_11_code (3 : Nat) (Option.none : Option Jvm.ClassFile.FieldType)) ∈ lw_tbl := zT_tb (List.mem_append_right tables_1_1 (List.mem_append_left (tables_1_3 ++ tables_1_4) (List.mem_of_getElem? (i := 141) rfl)))
theorem q381 : (Jvm.Cond.code ({ cls := "DigitChip$Assembler", name := "fillInLabels", desc := "()V" } : Jvm.MethodName) prog_2_method_11_code (3 : Nat) (Option.none : Option Jvm.ClassFile.FieldType)) ∈ zT := zT_in b381 rfl
theorem b382 : (Jvm.Cond.classLink "DigitChip" (31 : Nat) "java/lang/IllegalArgumentException") ∈ lw_tbl := zT_tb (List.mem_append_right tables_1_1 (List.mem_append_left (tables_1_3 ++ tables_1_4) (List.mem_of_getElem? (i := 142) rfl)))
theorem q382 : (Jvm.Cond.classLink "DigitChip" (31 : Nat) "java/lang/IllegalArgumentException") ∈ zT := zT_in b382 rfl
theorem b383 : (Jvm.Cond.instantiable "java/lang/IllegalArgumentException" (6 : Nat)) ∈ lw_tbl := zT_tb (List.mem_append_right tables_1_1 (List.mem_append_left (tables_1_3 ++ tables_1_4) (List.mem_of_getElem? (i := 143) rfl)))
theorem q383 : (Jvm.Cond.instantiable "java/lang/IllegalArgumentException" (6 : Nat)) ∈ zT := zT_in b383 rfl
theorem b384 : (Jvm.Cond.castable "java/lang/IllegalArgumentException" "java/lang/IllegalArgumentException") ∈ lw_tbl := zT_tb (List.mem_append_right tables_1_1 (List.mem_append_left (tables_1_3 ++ tables_1_4) (List.mem_of_getElem? (i := 144) rfl)))
theorem b385 : (Jvm.Cond.declares ({ cls := "java/lang/RuntimeException", name := "<init>", desc := "()V" } : Jvm.MethodName)) ∈ lw_tbl := zT_tb (List.mem_append_right tables_1_1 (List.mem_append_left (tables_1_3 ++ tables_1_4) (List.mem_of_getElem? (i := 145) rfl)))
theorem b386 : (Jvm.Cond.declares ({ cls := "java/lang/RuntimeException", name := "<init>", desc := "(Ljava/lang/String;)V" } : Jvm.MethodName)) ∈ lw_tbl := zT_tb (List.mem_append_right tables_1_1 (List.mem_append_left (tables_1_3 ++ tables_1_4) (List.mem_of_getElem? (i := 146) rfl)))
theorem b387 : (Jvm.Cond.declares ({ cls := "java/lang/Exception", name := "<init>", desc := "()V" } : Jvm.MethodName)) ∈ lw_tbl := zT_tb (List.mem_append_right tables_1_1 (List.mem_append_left (tables_1_3 ++ tables_1_4) (List.mem_of_getElem? (i := 147) rfl)))
theorem b388 : (Jvm.Cond.declares ({ cls := "java/lang/Exception", name := "<init>", desc := "(Ljava/lang/String;)V" } : Jvm.MethodName)) ∈ lw_tbl := zT_tb (List.mem_append_right tables_1_1 (List.mem_append_left (tables_1_3 ++ tables_1_4) (List.mem_of_getElem? (i := 148) rfl)))
theorem b389 : (Jvm.Cond.declares ({ cls := "java/lang/Throwable", name := "<init>", desc := "()V" } : Jvm.MethodName)) ∈ lw_tbl := zT_tb (List.mem_append_right tables_1_1 (List.mem_append_left (tables_1_3 ++ tables_1_4) (List.mem_of_getElem? (i := 149) rfl)))
theorem b390 : (Jvm.Cond.declares ({ cls := "java/lang/Throwable", name := "<init>", desc := "(Ljava/lang/String;)V" } : Jvm.MethodName)) ∈ lw_tbl := zT_tb (List.mem_append_right tables_1_1 (List.mem_append_left (tables_1_3 ++ tables_1_4) (List.mem_of_getElem? (i := 150) rfl)))
theorem b391 : (Jvm.Cond.selects "java/lang/IllegalArgumentException" ({ cls := "java/lang/Throwable", name := "fillInStackTrace", desc := "(I)Ljava/lang/Throwable;" } : Jvm.MethodName) ({ cls := "java/lang/Throwable", name := "fillInStackTrace", desc := "(I)Ljava/lang/Throwable;" } : Jvm.MethodName)) ∈ lw_tbl := zT_tb (List.mem_append_right tables_1_1 (List.mem_append_left (tables_1_3 ++ tables_1_4) (List.mem_of_getElem? (i := 151) rfl)))
theorem q391 : (Jvm.Cond.selects "java/lang/IllegalArgumentException" ({ cls := "java/lang/Throwable", name := "fillInStackTrace", desc := "(I)Ljava/lang/Throwable;" } : Jvm.MethodName) ({ cls := "java/lang/Throwable", name := "fillInStackTrace", desc := "(I)Ljava/lang/Throwable;" } : Jvm.MethodName)) ∈ zT := zT_in b391 rfl
theorem b392 : (Jvm.Cond.selects "java/lang/IllegalArgumentException" ({ cls := "java/lang/Throwable", name := "fillInStackTrace", desc := "()Ljava/lang/Throwable;" } : Jvm.MethodName) ({ cls := "java/lang/Throwable", name := "fillInStackTrace", desc := "()Ljava/lang/Throwable;" } : Jvm.MethodName)) ∈ lw_tbl := zT_tb (List.mem_append_right tables_1_1 (List.mem_append_left (tables_1_3 ++ tables_1_4) (List.mem_of_getElem? (i := 152) rfl)))
theorem q392 : (Jvm.Cond.selects "java/lang/IllegalArgumentException" ({ cls := "java/lang/Throwable", name := "fillInStackTrace", desc := "()Ljava/lang/Throwable;" } : Jvm.MethodName) ({ cls := "java/lang/Throwable", name := "fillInStackTrace", desc := "()Ljava/lang/Throwable;" } : Jvm.MethodName)) ∈ zT := zT_in b392 rfl
theorem b393 : (Jvm.Cond.lays "java/lang/IllegalArgumentException" "java/lang/Throwable" "cause" "Ljava/lang/Throwable;") ∈ lw_tbl := zT_tb (List.mem_append_right tables_1_1 (List.mem_append_left (tables_1_3 ++ tables_1_4) (List.mem_of_getElem? (i := 153) rfl)))
theorem q393 : (Jvm.Cond.lays "java/lang/IllegalArgumentException" "java/lang/Throwable" "cause" "Ljava/lang/Throwable;") ∈ zT := zT_in b393 rfl
theorem b394 : (Jvm.Cond.lays "java/lang/Throwable" "java/lang/Throwable" "cause" "Ljava/lang/Throwable;") ∈ lw_tbl := zT_tb (List.mem_append_right tables_1_1 (List.mem_append_left (tables_1_3 ++ tables_1_4) (List.mem_of_getElem? (i := 154) rfl)))
theorem q394 : (Jvm.Cond.lays "java/lang/Throwable" "java/lang/Throwable" "cause" "Ljava/lang/Throwable;") ∈ zT := zT_in b394 rfl
theorem b395 : (Jvm.Cond.lays "java/lang/IllegalArgumentException" "java/lang/Throwable" "stackTrace" "[Ljava/lang/StackTraceElement;") ∈ lw_tbl := zT_tb (List.mem_append_right tables_1_1 (List.mem_append_left (tables_1_3 ++ tables_1_4) (List.mem_of_getElem? (i := 155) rfl)))
theorem q395 : (Jvm.Cond.lays "java/lang/IllegalArgumentException" "java/lang/Throwable" "stackTrace" "[Ljava/lang/StackTraceElement;") ∈ zT := zT_in b395 rfl
theorem b396 : (Jvm.Cond.lays "java/lang/Throwable" "java/lang/Throwable" "stackTrace" "[Ljava/lang/StackTraceElement;") ∈ lw_tbl := zT_tb (List.mem_append_right tables_1_1 (List.mem_append_left (tables_1_3 ++ tables_1_4) (List.mem_of_getElem? (i := 156) rfl)))
theorem q396 : (Jvm.Cond.lays "java/lang/Throwable" "java/lang/Throwable" "stackTrace" "[Ljava/lang/StackTraceElement;") ∈ zT := zT_in b396 rfl
theorem b397 : (Jvm.Cond.lays "java/lang/IllegalArgumentException" "java/lang/Throwable" "suppressedExceptions" "Ljava/util/List;") ∈ lw_tbl := zT_tb (List.mem_append_right tables_1_1 (List.mem_append_left (tables_1_3 ++ tables_1_4) (List.mem_of_getElem? (i := 157) rfl)))
theorem q397 : (Jvm.Cond.lays "java/lang/IllegalArgumentException" "java/lang/Throwable" "suppressedExceptions" "Ljava/util/List;") ∈ zT := zT_in b397 rfl
theorem b398 : (Jvm.Cond.lays "java/lang/Throwable" "java/lang/Throwable" "suppressedExceptions" "Ljava/util/List;") ∈ lw_tbl := zT_tb (List.mem_append_right tables_1_1 (List.mem_append_left (tables_1_3 ++ tables_1_4) (List.mem_of_getElem? (i := 158) rfl)))
theorem q398 : (Jvm.Cond.lays "java/lang/Throwable" "java/lang/Throwable" "suppressedExceptions" "Ljava/util/List;") ∈ zT := zT_in b398 rfl
theorem b399 : (Jvm.Cond.lays "java/lang/IllegalArgumentException" "java/lang/Throwable" "detailMessage" "Ljava/lang/String;") ∈ lw_tbl := zT_tb (List.mem_append_right tables_1_1 (List.mem_append_left (tables_1_3 ++ tables_1_4) (List.mem_of_getElem? (i := 159) rfl)))
theorem q399 : (Jvm.Cond.lays "java/lang/IllegalArgumentException" "java/lang/Throwable" "detailMessage" "Ljava/lang/String;") ∈ zT := zT_in b399 rfl
theorem b400 : (Jvm.Cond.lays "java/lang/Throwable" "java/lang/Throwable" "detailMessage" "Ljava/lang/String;") ∈ lw_tbl := zT_tb (List.mem_append_right tables_1_1 (List.mem_append_left (tables_1_3 ++ tables_1_4) (List.mem_of_getElem? (i := 160) rfl)))
theorem q400 : (Jvm.Cond.lays "java/lang/Throwable" "java/lang/Throwable" "detailMessage" "Ljava/lang/String;") ∈ zT := zT_in b400 rfl
theorem b401 : (Jvm.Cond.lays "java/lang/IllegalArgumentException" "java/lang/Throwable" "backtrace" "Ljava/lang/Object;") ∈ lw_tbl := zT_tb (List.mem_append_right tables_1_1 (List.mem_append_left (tables_1_3 ++ tables_1_4) (List.mem_of_getElem? (i := 161) rfl)))
theorem q401 : (Jvm.Cond.lays "java/lang/IllegalArgumentException" "java/lang/Throwable" "backtrace" "Ljava/lang/Object;") ∈ zT := zT_in b401 rfl
theorem b402 : (Jvm.Cond.lays "java/lang/Throwable" "java/lang/Throwable" "backtrace" "Ljava/lang/Object;") ∈ lw_tbl := zT_tb (List.mem_append_right tables_1_1 (List.mem_append_left (tables_1_3 ++ tables_1_4) (List.mem_of_getElem? (i := 162) rfl)))
theorem q402 : (Jvm.Cond.lays "java/lang/Throwable" "java/lang/Throwable" "backtrace" "Ljava/lang/Object;") ∈ zT := zT_in b402 rfl
theorem b403 : (Jvm.Cond.fieldLink "java/lang/Throwable" (198 : Nat) "java/lang/Throwable" "backtrace" "Ljava/lang/Object;") ∈ lw_tbl := zT_tb (List.mem_append_right tables_1_1 (List.mem_append_left (tables_1_3 ++ tables_1_4) (List.mem_of_getElem? (i := 163) rfl)))
theorem q403 : (Jvm.Cond.fieldLink "java/lang/Throwable" (198 : Nat) "java/lang/Throwable" "backtrace" "Ljava/lang/Object;") ∈ zT := zT_in b403 rfl
theorem b404 : (Jvm.Cond.superclass "java/lang/Throwable" "java/lang/Object") ∈ lw_tbl := zT_tb (List.mem_append_right tables_1_1 (List.mem_append_left (tables_1_3 ++ tables_1_4) (List.mem_of_getElem? (i := 164) rfl)))
theorem b405 : (Jvm.Cond.instanceMethod ({ cls := "java/lang/Throwable", name := "<init>", desc := "()V" } : Jvm.MethodName)) ∈ lw_tbl := zT_tb (List.mem_append_right tables_1_1 (List.mem_append_left (tables_1_3 ++ tables_1_4) (List.mem_of_getElem? (i := 165) rfl)))
theorem q405 : (Jvm.Cond.instanceMethod ({ cls := "java/lang/Throwable", name := "<init>", desc := "()V" } : Jvm.MethodName)) ∈ zT := zT_in b405 rfl
theorem b406 : (Jvm.Cond.code ({ cls := "java/lang/Throwable", name := "<init>", desc := "()V" } : Jvm.MethodName) prog_16_method_1_code (1 : Nat) (Option.none : Option Jvm.ClassFile.FieldType)) ∈ lw_tbl := zT_tb (List.mem_append_right tables_1_1 (List.mem_append_left (tables_1_3 ++ tables_1_4) (List.mem_of_getElem? (i := 166) rfl)))
theorem q406 : (Jvm.Cond.code ({ cls := "java/lang/Throwable", name := "<init>", desc := "()V" } : Jvm.MethodName) prog_16_method_1_code (1 : Nat) (Option.none : Option Jvm.ClassFile.FieldType)) ∈ zT := zT_in b406 rfl
theorem b407 : (Jvm.Cond.methodLink "java/lang/Throwable" (1 : Nat) ({ cls := "java/lang/Object", name := "<init>", desc := "()V" } : Jvm.MethodName)) ∈ lw_tbl := zT_tb (List.mem_append_right tables_1_1 (List.mem_append_left (tables_1_3 ++ tables_1_4) (List.mem_of_getElem? (i := 167) rfl)))
theorem q407 : (Jvm.Cond.methodLink "java/lang/Throwable" (1 : Nat) ({ cls := "java/lang/Object", name := "<init>", desc := "()V" } : Jvm.MethodName)) ∈ zT := zT_in b407 rfl
theorem b408 : (Jvm.Cond.fieldLink "java/lang/Throwable" (13 : Nat) "java/lang/Throwable" "UNASSIGNED_STACK" "[Ljava/lang/StackTraceElement;") ∈ lw_tbl := zT_tb (List.mem_append_right tables_1_1 (List.mem_append_left (tables_1_3 ++ tables_1_4) (List.mem_of_getElem? (i := 168) rfl)))
theorem q408 : (Jvm.Cond.fieldLink "java/lang/Throwable" (13 : Nat) "java/lang/Throwable" "UNASSIGNED_STACK" "[Ljava/lang/StackTraceElement;") ∈ zT := zT_in b408 rfl
theorem b409 : (Jvm.Cond.laysStatic "java/lang/Throwable" "UNASSIGNED_STACK" "[Ljava/lang/StackTraceElement;") ∈ lw_tbl := zT_tb (List.mem_append_right tables_1_1 (List.mem_append_left (tables_1_3 ++ tables_1_4) (List.mem_of_getElem? (i := 169) rfl)))
theorem b410 : (Jvm.Cond.fieldLink "java/lang/Throwable" (20 : Nat) "java/lang/Throwable" "SUPPRESSED_SENTINEL" "Ljava/util/List;") ∈ lw_tbl := zT_tb (List.mem_append_right tables_1_1 (List.mem_append_left (tables_1_3 ++ tables_1_4) (List.mem_of_getElem? (i := 170) rfl)))
theorem q410 : (Jvm.Cond.fieldLink "java/lang/Throwable" (20 : Nat) "java/lang/Throwable" "SUPPRESSED_SENTINEL" "Ljava/util/List;") ∈ zT := zT_in b410 rfl
theorem b411 : (Jvm.Cond.laysStatic "java/lang/Throwable" "SUPPRESSED_SENTINEL" "Ljava/util/List;") ∈ lw_tbl := zT_tb (List.mem_append_right tables_1_1 (List.mem_append_left (tables_1_3 ++ tables_1_4) (List.mem_of_getElem? (i := 171) rfl)))
theorem b412 : (Jvm.Cond.methodLink "java/lang/Throwable" (27 : Nat) ({ cls := "java/lang/Throwable", name := "fillInStackTrace", desc := "()Ljava/lang/Throwable;" } : Jvm.MethodName)) ∈ lw_tbl := zT_tb (List.mem_append_right tables_1_1 (List.mem_append_left (tables_1_3 ++ tables_1_4) (List.mem_of_getElem? (i := 172) rfl)))
theorem q412 : (Jvm.Cond.methodLink "java/lang/Throwable" (27 : Nat) ({ cls := "java/lang/Throwable", name := "fillInStackTrace", desc := "()Ljava/lang/Throwable;" } : Jvm.MethodName)) ∈ zT := zT_in b412 rfl
theorem b413 : (Jvm.Cond.instanceMethod ({ cls := "java/lang/Throwable", name := "fillInStackTrace", desc := "()Ljava/lang/Throwable;" } : Jvm.MethodName)) ∈ lw_tbl := zT_tb (List.mem_append_right tables_1_1 (List.mem_append_left (tables_1_3 ++ tables_1_4) (List.mem_of_getElem? (i := 173) rfl)))
theorem q413 : (Jvm.Cond.instanceMethod ({ cls := "java/lang/Throwable", name := "fillInStackTrace", desc := "()Ljava/lang/Throwable;" } : Jvm.MethodName)) ∈ zT := zT_in b413 rfl
theorem b414 : (Jvm.Cond.sameMethod "java/lang/Throwable" "java/lang/Throwable" "fillInStackTrace" "()Ljava/lang/Throwable;") ∈ lw_tbl := zT_tb (List.mem_append_right tables_1_1 (List.mem_append_left (tables_1_3 ++ tables_1_4) (List.mem_of_getElem? (i := 174) rfl)))
theorem b415 : (Jvm.Cond.codeSync ({ cls := "java/lang/Throwable", name := "fillInStackTrace", desc := "()Ljava/lang/Throwable;" } : Jvm.MethodName) prog_16_method_18_code (1 : Nat) (Option.some (Jvm.ClassFile.FieldType.object "java/lang/Throwable"))) ∈ lw_tbl := zT_tb (List.mem_append_right tables_1_1 (List.mem_append_left (tables_1_3 ++ tables_1_4) (List.mem_of_getElem? (i := 175) rfl)))
theorem b416 : (Jvm.Cond.methodLink "java/lang/Throwable" (202 : Nat) ({ cls := "java/lang/Throwable", name := "fillInStackTrace", desc := "(I)Ljava/lang/Throwable;" } : Jvm.MethodName)) ∈ lw_tbl := zT_tb (List.mem_append_right tables_1_1 (List.mem_append_left (tables_1_3 ++ tables_1_4) (List.mem_of_getElem? (i := 176) rfl)))
theorem q416 : (Jvm.Cond.methodLink "java/lang/Throwable" (202 : Nat) ({ cls := "java/lang/Throwable", name := "fillInStackTrace", desc := "(I)Ljava/lang/Throwable;" } : Jvm.MethodName)) ∈ zT := zT_in b416 rfl
theorem b417 : (Jvm.Cond.privateMethod ({ cls := "java/lang/Throwable", name := "fillInStackTrace", desc := "(I)Ljava/lang/Throwable;" } : Jvm.MethodName)) ∈ lw_tbl := zT_tb (List.mem_append_right tables_1_1 (List.mem_append_left (tables_1_3 ++ tables_1_4) (List.mem_of_getElem? (i := 177) rfl)))
theorem b418 : (Jvm.Cond.instanceMethod ({ cls := "java/lang/Throwable", name := "fillInStackTrace", desc := "(I)Ljava/lang/Throwable;" } : Jvm.MethodName)) ∈ lw_tbl := zT_tb (List.mem_append_right tables_1_1 (List.mem_append_left (tables_1_3 ++ tables_1_4) (List.mem_of_getElem? (i := 178) rfl)))
theorem q418 : (Jvm.Cond.instanceMethod ({ cls := "java/lang/Throwable", name := "fillInStackTrace", desc := "(I)Ljava/lang/Throwable;" } : Jvm.MethodName)) ∈ zT := zT_in b418 rfl
theorem b419 : (Jvm.Cond.instantiable "java/lang/Throwable" (6 : Nat)) ∈ lw_tbl := zT_tb (List.mem_append_right tables_1_1 (List.mem_append_left (tables_1_3 ++ tables_1_4) (List.mem_of_getElem? (i := 179) rfl)))
theorem q419 : (Jvm.Cond.instantiable "java/lang/Throwable" (6 : Nat)) ∈ zT := zT_in b419 rfl
theorem b420 : (Jvm.Cond.native ({ cls := "java/lang/Throwable", name := "fillInStackTrace", desc := "(I)Ljava/lang/Throwable;" } : Jvm.MethodName)) ∈ lw_tbl := zT_tb (List.mem_append_right tables_1_1 (List.mem_append_left (tables_1_3 ++ tables_1_4) (List.mem_of_getElem? (i := 180) rfl)))
theorem b421 : (Jvm.Cond.methodLink "DigitChip" (33 : Nat) ({ cls := "java/lang/IllegalArgumentException", name := "<init>", desc := "()V" } : Jvm.MethodName)) ∈ lw_tbl := zT_tb (List.mem_append_right tables_1_1 (List.mem_append_left (tables_1_3 ++ tables_1_4) (List.mem_of_getElem? (i := 181) rfl)))
theorem q421 : (Jvm.Cond.methodLink "DigitChip" (33 : Nat) ({ cls := "java/lang/IllegalArgumentException", name := "<init>", desc := "()V" } : Jvm.MethodName)) ∈ zT := zT_in b421 rfl
theorem b422 : (Jvm.Cond.instanceMethod ({ cls := "java/lang/IllegalArgumentException", name := "<init>", desc := "()V" } : Jvm.MethodName)) ∈ lw_tbl := zT_tb (List.mem_append_right tables_1_1 (List.mem_append_left (tables_1_3 ++ tables_1_4) (List.mem_of_getElem? (i := 182) rfl)))
theorem q422 : (Jvm.Cond.instanceMethod ({ cls := "java/lang/IllegalArgumentException", name := "<init>", desc := "()V" } : Jvm.MethodName)) ∈ zT := zT_in b422 rfl
theorem b423 : (Jvm.Cond.code ({ cls := "java/lang/IllegalArgumentException", name := "<init>", desc := "()V" } : Jvm.MethodName) prog_10_method_1_code (1 : Nat) (Option.none : Option Jvm.ClassFile.FieldType)) ∈ lw_tbl := zT_tb (List.mem_append_right tables_1_1 (List.mem_append_left (tables_1_3 ++ tables_1_4) (List.mem_of_getElem? (i := 183) rfl)))
theorem q423 : (Jvm.Cond.code ({ cls := "java/lang/IllegalArgumentException", name := "<init>", desc := "()V" } : Jvm.MethodName) prog_10_method_1_code (1 : Nat) (Option.none : Option Jvm.ClassFile.FieldType)) ∈ zT := zT_in b423 rfl
theorem b424 : (Jvm.Cond.methodLink "java/lang/IllegalArgumentException" (1 : Nat) ({ cls := "java/lang/RuntimeException", name := "<init>", desc := "()V" } : Jvm.MethodName)) ∈ lw_tbl := zT_tb (List.mem_append_right tables_1_1 (List.mem_append_left (tables_1_3 ++ tables_1_4) (List.mem_of_getElem? (i := 184) rfl)))
theorem q424 : (Jvm.Cond.methodLink "java/lang/IllegalArgumentException" (1 : Nat) ({ cls := "java/lang/RuntimeException", name := "<init>", desc := "()V" } : Jvm.MethodName)) ∈ zT := zT_in b424 rfl
theorem b425 : (Jvm.Cond.instanceMethod ({ cls := "java/lang/RuntimeException", name := "<init>", desc := "()V" } : Jvm.MethodName)) ∈ lw_tbl := zT_tb (List.mem_append_right tables_1_1 (List.mem_append_left (tables_1_3 ++ tables_1_4) (List.mem_of_getElem? (i := 185) rfl)))
theorem q425 : (Jvm.Cond.instanceMethod ({ cls := "java/lang/RuntimeException", name := "<init>", desc := "()V" } : Jvm.MethodName)) ∈ zT := zT_in b425 rfl
theorem b426 : (Jvm.Cond.code ({ cls := "java/lang/RuntimeException", name := "<init>", desc := "()V" } : Jvm.MethodName) prog_12_method_1_code (1 : Nat) (Option.none : Option Jvm.ClassFile.FieldType)) ∈ lw_tbl := zT_tb (List.mem_append_right tables_1_1 (List.mem_append_left (tables_1_3 ++ tables_1_4) (List.mem_of_getElem? (i := 186) rfl)))
theorem q426 : (Jvm.Cond.code ({ cls := "java/lang/RuntimeException", name := "<init>", desc := "()V" } : Jvm.MethodName) prog_12_method_1_code (1 : Nat) (Option.none : Option Jvm.ClassFile.FieldType)) ∈ zT := zT_in b426 rfl
theorem b427 : (Jvm.Cond.methodLink "java/lang/RuntimeException" (1 : Nat) ({ cls := "java/lang/Exception", name := "<init>", desc := "()V" } : Jvm.MethodName)) ∈ lw_tbl := zT_tb (List.mem_append_right tables_1_1 (List.mem_append_left (tables_1_3 ++ tables_1_4) (List.mem_of_getElem? (i := 187) rfl)))
theorem q427 : (Jvm.Cond.methodLink "java/lang/RuntimeException" (1 : Nat) ({ cls := "java/lang/Exception", name := "<init>", desc := "()V" } : Jvm.MethodName)) ∈ zT := zT_in b427 rfl
theorem b428 : (Jvm.Cond.instanceMethod ({ cls := "java/lang/Exception", name := "<init>", desc := "()V" } : Jvm.MethodName)) ∈ lw_tbl := zT_tb (List.mem_append_right tables_1_1 (List.mem_append_left (tables_1_3 ++ tables_1_4) (List.mem_of_getElem? (i := 188) rfl)))
theorem q428 : (Jvm.Cond.instanceMethod ({ cls := "java/lang/Exception", name := "<init>", desc := "()V" } : Jvm.MethodName)) ∈ zT := zT_in b428 rfl
theorem b429 : (Jvm.Cond.code ({ cls := "java/lang/Exception", name := "<init>", desc := "()V" } : Jvm.MethodName) prog_9_method_1_code (1 : Nat) (Option.none : Option Jvm.ClassFile.FieldType)) ∈ lw_tbl := zT_tb (List.mem_append_right tables_1_1 (List.mem_append_left (tables_1_3 ++ tables_1_4) (List.mem_of_getElem? (i := 189) rfl)))
theorem q429 : (Jvm.Cond.code ({ cls := "java/lang/Exception", name := "<init>", desc := "()V" } : Jvm.MethodName) prog_9_method_1_code (1 : Nat) (Option.none : Option Jvm.ClassFile.FieldType)) ∈ zT := zT_in b429 rfl
theorem b430 : (Jvm.Cond.methodLink "java/lang/Exception" (1 : Nat) ({ cls := "java/lang/Throwable", name := "<init>", desc := "()V" } : Jvm.MethodName)) ∈ lw_tbl := zT_tb (List.mem_append_right tables_1_1 (List.mem_append_left (tables_1_3 ++ tables_1_4) (List.mem_of_getElem? (i := 190) rfl)))
theorem q430 : (Jvm.Cond.methodLink "java/lang/Exception" (1 : Nat) ({ cls := "java/lang/Throwable", name := "<init>", desc := "()V" } : Jvm.MethodName)) ∈ zT := zT_in b430 rfl
theorem b431 : (Jvm.Cond.fieldLink "java/lang/Throwable" (198 : Nat) "java/lang/Throwable" "backtrace" "Ljava/lang/Object;") ∈ lw_tbl := zT_tb (List.mem_append_right tables_1_1 (List.mem_append_left (tables_1_3 ++ tables_1_4) (List.mem_of_getElem? (i := 191) rfl)))
theorem q431 : (Jvm.Cond.fieldLink "java/lang/Throwable" (198 : Nat) "java/lang/Throwable" "backtrace" "Ljava/lang/Object;") ∈ zT := zT_in b431 rfl
theorem b432 : (Jvm.Cond.fieldLink "java/lang/Throwable" (7 : Nat) "java/lang/Throwable" "cause" "Ljava/lang/Throwable;") ∈ lw_tbl := zT_tb (List.mem_append_right tables_1_1 (List.mem_append_left (tables_1_3 ++ tables_1_4) (List.mem_of_getElem? (i := 192) rfl)))
theorem q432 : (Jvm.Cond.fieldLink "java/lang/Throwable" (7 : Nat) "java/lang/Throwable" "cause" "Ljava/lang/Throwable;") ∈ zT := zT_in b432 rfl
theorem b433 : (Jvm.Cond.fieldLink "java/lang/Throwable" (17 : Nat) "java/lang/Throwable" "stackTrace" "[Ljava/lang/StackTraceElement;") ∈ lw_tbl := zT_tb (List.mem_append_right tables_1_1 (List.mem_append_left (tables_1_3 ++ tables_1_4) (List.mem_of_getElem? (i := 193) rfl)))
theorem q433 : (Jvm.Cond.fieldLink "java/lang/Throwable" (17 : Nat) "java/lang/Throwable" "stackTrace" "[Ljava/lang/StackTraceElement;") ∈ zT := zT_in b433 rfl
theorem b434 : (Jvm.Cond.fieldLink "java/lang/Throwable" (24 : Nat) "java/lang/Throwable" "suppressedExceptions" "Ljava/util/List;") ∈ lw_tbl := zT_tb (List.mem_append_right tables_1_1 (List.mem_append_left (tables_1_3 ++ tables_1_4) (List.mem_of_getElem? (i := 194) rfl)))
theorem q434 : (Jvm.Cond.fieldLink "java/lang/Throwable" (24 : Nat) "java/lang/Throwable" "suppressedExceptions" "Ljava/util/List;") ∈ zT := zT_in b434 rfl
theorem b435 : (Jvm.Cond.soleField "java/lang/Throwable" "backtrace") ∈ lw_tbl := zT_tb (List.mem_append_right tables_1_1 (List.mem_append_left (tables_1_3 ++ tables_1_4) (List.mem_of_getElem? (i := 195) rfl)))
theorem b436 : (Jvm.Cond.soleField "java/lang/Throwable" "detailMessage") ∈ lw_tbl := zT_tb (List.mem_append_right tables_1_1 (List.mem_append_left (tables_1_3 ++ tables_1_4) (List.mem_of_getElem? (i := 196) rfl)))
theorem b437 : (Jvm.Cond.soleField "java/lang/Throwable" "cause") ∈ lw_tbl := zT_tb (List.mem_append_right tables_1_1 (List.mem_append_left (tables_1_3 ++ tables_1_4) (List.mem_of_getElem? (i := 197) rfl)))
theorem b438 : (Jvm.Cond.soleField "java/lang/Throwable" "stackTrace") ∈ lw_tbl := zT_tb (List.mem_append_right tables_1_1 (List.mem_append_left (tables_1_3 ++ tables_1_4) (List.mem_of_getElem? (i := 198) rfl)))
theorem b439 : (Jvm.Cond.lays "java/lang/IllegalArgumentException" "java/lang/Throwable" "depth" "I") ∈ lw_tbl := zT_tb (List.mem_append_right tables_1_1 (List.mem_append_left (tables_1_3 ++ tables_1_4) (List.mem_of_getElem? (i := 199) rfl)))
theorem q439 : (Jvm.Cond.lays "java/lang/IllegalArgumentException" "java/lang/Throwable" "depth" "I") ∈ zT := zT_in b439 rfl
theorem b440 : (Jvm.Cond.soleField "java/lang/Throwable" "depth") ∈ lw_tbl := zT_tb (List.mem_append_right tables_1_1 (List.mem_append_left (tables_1_3 ++ tables_1_4) (List.mem_of_getElem? (i := 200) rfl)))
theorem b441 : (Jvm.Cond.soleField "java/lang/Throwable" "suppressedExceptions") ∈ lw_tbl := zT_tb (List.mem_append_right tables_1_1 (List.mem_append_left (tables_1_3 ++ tables_1_4) (List.mem_of_getElem? (i := 201) rfl)))
theorem b442 : (Jvm.Cond.superclass "java/lang/IllegalArgumentException" "java/lang/RuntimeException") ∈ lw_tbl := zT_tb (List.mem_append_right tables_1_1 (List.mem_append_left (tables_1_3 ++ tables_1_4) (List.mem_of_getElem? (i := 202) rfl)))
theorem b443 : (Jvm.Cond.methodLink "DigitChip" (42 : Nat) ({ cls := "DigitChip$Processor", name := "load", desc := "([II)V" } : Jvm.MethodName)) ∈ lw_tbl := zT_tb (List.mem_append_right tables_1_1 (List.mem_append_left (tables_1_3 ++ tables_1_4) (List.mem_of_getElem? (i := 203) rfl)))
theorem q443 : (Jvm.Cond.methodLink "DigitChip" (42 : Nat) ({ cls := "DigitChip$Processor", name := "load", desc := "([II)V" } : Jvm.MethodName)) ∈ zT := zT_in b443 rfl
theorem b444 : (Jvm.Cond.instanceMethod ({ cls := "DigitChip$Processor", name := "load", desc := "([II)V" } : Jvm.MethodName)) ∈ lw_tbl := zT_tb (List.mem_append_right tables_1_1 (List.mem_append_left (tables_1_3 ++ tables_1_4) (List.mem_of_getElem? (i := 204) rfl)))
theorem q444 : (Jvm.Cond.instanceMethod ({ cls := "DigitChip$Processor", name := "load", desc := "([II)V" } : Jvm.MethodName)) ∈ zT := zT_in b444 rfl
theorem b445 : (Jvm.Cond.selects "DigitChip$Processor" ({ cls := "DigitChip$Processor", name := "load", desc := "([II)V" } : Jvm.MethodName) ({ cls := "DigitChip$Processor", name := "load", desc := "([II)V" } : Jvm.MethodName)) ∈ lw_tbl := zT_tb (List.mem_append_right tables_1_1 (List.mem_append_left (tables_1_3 ++ tables_1_4) (List.mem_of_getElem? (i := 205) rfl)))
theorem q445 : (Jvm.Cond.selects "DigitChip$Processor" ({ cls := "DigitChip$Processor", name := "load", desc := "([II)V" } : Jvm.MethodName) ({ cls := "DigitChip$Processor", name := "load", desc := "([II)V" } : Jvm.MethodName)) ∈ zT := zT_in b445 rfl
theorem b446 : (Jvm.Cond.code ({ cls := "DigitChip$Processor", name := "load", desc := "([II)V" } : Jvm.MethodName) prog_3_method_2_code (4 : Nat) (Option.none : Option Jvm.ClassFile.FieldType)) ∈ lw_tbl := zT_tb (List.mem_append_right tables_1_1 (List.mem_append_left (tables_1_3 ++ tables_1_4) (List.mem_of_getElem? (i := 206) rfl)))
theorem q446 : (Jvm.Cond.code ({ cls := "DigitChip$Processor", name := "load", desc := "([II)V" } : Jvm.MethodName) prog_3_method_2_code (4 : Nat) (Option.none : Option Jvm.ClassFile.FieldType)) ∈ zT := zT_in b446 rfl
theorem b447 : (Jvm.Cond.methodLink "DigitChipLaw" (59 : Nat) ({ cls := "DigitChipLaw", name := "run", desc := "(LDigitChip;I[J)I" } : Jvm.MethodName)) ∈ lw_tbl := zT_tb (List.mem_append_right tables_1_1 (List.mem_append_left (tables_1_3 ++ tables_1_4) (List.mem_of_getElem? (i := 207) rfl)))
theorem q447 : (Jvm.Cond.methodLink "DigitChipLaw" (59 : Nat) ({ cls := "DigitChipLaw", name := "run", desc := "(LDigitChip;I[J)I" } : Jvm.MethodName)) ∈ zT := zT_in b447 rfl
theorem b448 : (Jvm.Cond.static ({ cls := "DigitChipLaw", name := "run", desc := "(LDigitChip;I[J)I" } : Jvm.MethodName)) ∈ lw_tbl := zT_tb (List.mem_append_right tables_1_1 (List.mem_append_left (tables_1_3 ++ tables_1_4) (List.mem_of_getElem? (i := 208) rfl)))
theorem q448 : (Jvm.Cond.static ({ cls := "DigitChipLaw", name := "run", desc := "(LDigitChip;I[J)I" } : Jvm.MethodName)) ∈ zT := zT_in b448 rfl
theorem b449 : (Jvm.Cond.codeWith ({ cls := "DigitChipLaw", name := "run", desc := "(LDigitChip;I[J)I" } : Jvm.MethodName) method_4_code (4 : Nat) (Option.some Jvm.ClassFile.FieldType.int) [((0 : Nat), (9 : Nat), (12 : Nat), (13 : Nat))]) ∈ lw_tbl := zT_tb (List.mem_append_right tables_1_1 (List.mem_append_left (tables_1_3 ++ tables_1_4) (List.mem_of_getElem? (i := 209) rfl)))
theorem q449 : (Jvm.Cond.codeWith ({ cls := "DigitChipLaw", name := "run", desc := "(LDigitChip;I[J)I" } : Jvm.MethodName) method_4_code (4 : Nat) (Option.some Jvm.ClassFile.FieldType.int) [((0 : Nat), (9 : Nat), (12 : Nat), (13 : Nat))]) ∈ zT := zT_in b449 rfl
theorem b450 : (Jvm.Cond.methodLink "DigitChipLaw" (15 : Nat) ({ cls := "DigitChip", name := "run", desc := "(I)I" } : Jvm.MethodName)) ∈ lw_tbl := zT_tb (List.mem_append_right tables_1_1 (List.mem_append_left (tables_1_3 ++ tables_1_4) (List.mem_of_getElem? (i := 210) rfl)))
theorem q450 : (Jvm.Cond.methodLink "DigitChipLaw" (15 : Nat) ({ cls := "DigitChip", name := "run", desc := "(I)I" } : Jvm.MethodName)) ∈ zT := zT_in b450 rfl
theorem b451 : (Jvm.Cond.instanceMethod ({ cls := "DigitChip", name := "run", desc := "(I)I" } : Jvm.MethodName)) ∈ lw_tbl := zT_tb (List.mem_append_right tables_1_1 (List.mem_append_left (tables_1_3 ++ tables_1_4) (List.mem_of_getElem? (i := 211) rfl)))
theorem q451 : (Jvm.Cond.instanceMethod ({ cls := "DigitChip", name := "run", desc := "(I)I" } : Jvm.MethodName)) ∈ zT := zT_in b451 rfl
theorem b452 : (Jvm.Cond.selects "DigitChip" ({ cls := "DigitChip", name := "run", desc := "(I)I" } : Jvm.MethodName) ({ cls := "DigitChip", name := "run", desc := "(I)I" } : Jvm.MethodName)) ∈ lw_tbl := zT_tb (List.mem_append_right tables_1_1 (List.mem_append_left (tables_1_3 ++ tables_1_4) (List.mem_of_getElem? (i := 212) rfl)))
theorem q452 : (Jvm.Cond.selects "DigitChip" ({ cls := "DigitChip", name := "run", desc := "(I)I" } : Jvm.MethodName) ({ cls := "DigitChip", name := "run", desc := "(I)I" } : Jvm.MethodName)) ∈ zT := zT_in b452 rfl
theorem b453 : (Jvm.Cond.code ({ cls := "DigitChip", name := "run", desc := "(I)I" } : Jvm.MethodName) prog_1_method_9_code (2 : Nat) (Option.some Jvm.ClassFile.FieldType.int)) ∈ lw_tbl := zT_tb (List.mem_append_right tables_1_1 (List.mem_append_left (tables_1_3 ++ tables_1_4) (List.mem_of_getElem? (i := 213) rfl)))
theorem q453 : (Jvm.Cond.code ({ cls := "DigitChip", name := "run", desc := "(I)I" } : Jvm.MethodName) prog_1_method_9_code (2 : Nat) (Option.some Jvm.ClassFile.FieldType.int)) ∈ zT := zT_in b453 rfl
theorem b454 : (Jvm.Cond.methodLink "DigitChip" (65 : Nat) ({ cls := "DigitChip$Processor", name := "doWords", desc := "(I)I" } : Jvm.MethodName)) ∈ lw_tbl := zT_tb (List.mem_append_right tables_1_1 (List.mem_append_left (tables_1_3 ++ tables_1_4) (List.mem_of_getElem? (i := 214) rfl)))
theorem q454 : (Jvm.Cond.methodLink "DigitChip" (65 : Nat) ({ cls := "DigitChip$Processor", name := "doWords", desc := "(I)I" } : Jvm.MethodName)) ∈ zT := zT_in b454 rfl
theorem b455 : (Jvm.Cond.instanceMethod ({ cls := "DigitChip$Processor", name := "doWords", desc := "(I)I" } : Jvm.MethodName)) ∈ lw_tbl := zT_tb (List.mem_append_right tables_1_1 (List.mem_append_left (tables_1_3 ++ tables_1_4) (List.mem_of_getElem? (i := 215) rfl)))
theorem q455 : (Jvm.Cond.instanceMethod ({ cls := "DigitChip$Processor", name := "doWords", desc := "(I)I" } : Jvm.MethodName)) ∈ zT := zT_in b455 rfl
theorem b456 : (Jvm.Cond.selects "DigitChip$Processor" ({ cls := "DigitChip$Processor", name := "doWords", desc := "(I)I" } : Jvm.MethodName) ({ cls := "DigitChip$Processor", name := "doWords", desc := "(I)I" } : Jvm.MethodName)) ∈ lw_tbl := zT_tb (List.mem_append_right tables_1_1 (List.mem_append_left (tables_1_3 ++ tables_1_4) (List.mem_of_getElem? (i := 216) rfl)))
theorem q456 : (Jvm.Cond.selects "DigitChip$Processor" ({ cls := "DigitChip$Processor", name := "doWords", desc := "(I)I" } : Jvm.MethodName) ({ cls := "DigitChip$Processor", name := "doWords", desc := "(I)I" } : Jvm.MethodName)) ∈ zT := zT_in b456 rfl
theorem b457 : (Jvm.Cond.code ({ cls := "DigitChip$Processor", name := "doWords", desc := "(I)I" } : Jvm.MethodName) prog_3_method_3_code (3 : Nat) (Option.some Jvm.ClassFile.FieldType.int)) ∈ lw_tbl := zT_tb (List.mem_append_right tables_1_1 (List.mem_append_left (tables_1_3 ++ tables_1_4) (List.mem_of_getElem? (i := 217) rfl)))
theorem q457 : (Jvm.Cond.code ({ cls := "DigitChip$Processor", name := "doWords", desc := "(I)I" } : Jvm.MethodName) prog_3_method_3_code (3 : Nat) (Option.some Jvm.ClassFile.FieldType.int)) ∈ zT := zT_in b457 rfl
theorem b458 : (Jvm.Cond.methodLink "DigitChip$Processor" (49 : Nat) ({ cls := "DigitChip$Processor", name := "doWord", desc := "(I)V" } : Jvm.MethodName)) ∈ lw_tbl := zT_tb (List.mem_append_right tables_1_1 (List.mem_append_left (tables_1_3 ++ tables_1_4) (List.mem_of_getElem? (i := 218) rfl)))
theorem q458 : (Jvm.Cond.methodLink "DigitChip$Processor" (49 : Nat) ({ cls := "DigitChip$Processor", name := "doWord", desc := "(I)V" } : Jvm.MethodName)) ∈ zT := zT_in b458 rfl
theorem b459 : (Jvm.Cond.privateMethod ({ cls := "DigitChip$Processor", name := "doWord", desc := "(I)V" } : Jvm.MethodName)) ∈ lw_tbl := zT_tb (List.mem_append_right tables_1_1 (List.mem_append_left (tables_1_3 ++ tables_1_4) (List.mem_of_getElem? (i := 219) rfl)))
theorem b460 : (Jvm.Cond.instanceMethod ({ cls := "DigitChip$Processor", name := "doWord", desc := "(I)V" } : Jvm.MethodName)) ∈ lw_tbl := zT_tb (List.mem_append_right tables_1_1 (List.mem_append_left (tables_1_3 ++ tables_1_4) (List.mem_of_getElem? (i := 220) rfl)))
theorem q460 : (Jvm.Cond.instanceMethod ({ cls := "DigitChip$Processor", name := "doWord", desc := "(I)V" } : Jvm.MethodName)) ∈ zT := zT_in b460 rfl
theorem b461 : (Jvm.Cond.code ({ cls := "DigitChip$Processor", name := "doWord", desc := "(I)V" } : Jvm.MethodName) prog_3_method_4_code (4 : Nat) (Option.none : Option Jvm.ClassFile.FieldType)) ∈ lw_tbl := zT_tb (List.mem_append_right tables_1_1 (List.mem_append_left (tables_1_3 ++ tables_1_4) (List.mem_of_getElem? (i := 221) rfl)))
theorem q461 : (Jvm.Cond.code ({ cls := "DigitChip$Processor", name := "doWord", desc := "(I)V" } : Jvm.MethodName) prog_3_method_4_code (4 : Nat) (Option.none : Option Jvm.ClassFile.FieldType)) ∈ zT := zT_in b461 rfl
theorem b462 : (Jvm.Cond.methodLink "DigitChip$Processor" (53 : Nat) ({ cls := "DigitChip$Processor", name := "doPlain", desc := "(II)V" } : Jvm.MethodName)) ∈ lw_tbl := zT_tb (List.mem_append_right tables_1_1 (List.mem_append_left (tables_1_3 ++ tables_1_4) (List.mem_of_getElem? (i := 222) rfl)))
theorem q462 : (Jvm.Cond.methodLink "DigitChip$Processor" (53 : Nat) ({ cls := "DigitChip$Processor", name := "doPlain", desc := "(II)V" } : Jvm.MethodName)) ∈ zT := zT_in b462 rfl
theorem b463 : (Jvm.Cond.privateMethod ({ cls := "DigitChip$Processor", name := "doPlain", desc := "(II)V" } : Jvm.MethodName)) ∈ lw_tbl := zT_tb (List.mem_append_right tables_1_1 (List.mem_append_left (tables_1_3 ++ tables_1_4) (List.mem_of_getElem? (i := 223) rfl)))
theorem b464 : (Jvm.Cond.instanceMethod ({ cls := "DigitChip$Processor", name := "doPlain", desc := "(II)V" } : Jvm.MethodName)) ∈ lw_tbl := zT_tb (List.mem_append_right tables_1_1 (List.mem_append_left (tables_1_3 ++ tables_1_4) (List.mem_of_getElem? (i := 224) rfl)))
theorem q464 : (Jvm.Cond.instanceMethod ({ cls := "DigitChip$Processor", name := "doPlain", desc := "(II)V" } : Jvm.MethodName)) ∈ zT := zT_in b464 rfl
theorem b465 : (Jvm.Cond.code ({ cls := "DigitChip$Processor", name := "doPlain", desc := "(II)V" } : Jvm.MethodName) prog_3_method_5_code (3 : Nat) (Option.none : Option Jvm.ClassFile.FieldType)) ∈ lw_tbl := zT_tb (List.mem_append_right tables_1_1 (List.mem_append_left (tables_1_3 ++ tables_1_4) (List.mem_of_getElem? (i := 225) rfl)))
theorem q465 : (Jvm.Cond.code ({ cls := "DigitChip$Processor", name := "doPlain", desc := "(II)V" } : Jvm.MethodName) prog_3_method_5_code (3 : Nat) (Option.none : Option Jvm.ClassFile.FieldType)) ∈ zT := zT_in b465 rfl
theorem b466 : (Jvm.Cond.methodLink "DigitChip$Processor" (68 : Nat) ({ cls := "DigitChip$Processor", name := "setStatus", desc := "(I)V" } : Jvm.MethodName)) ∈ lw_tbl := zT_tb (List.mem_append_right tables_1_1 (List.mem_append_left (tables_1_3 ++ tables_1_4) (List.mem_of_getElem? (i := 226) rfl)))
theorem q466 : (Jvm.Cond.methodLink "DigitChip$Processor" (68 : Nat) ({ cls := "DigitChip$Processor", name := "setStatus", desc := "(I)V" } : Jvm.MethodName)) ∈ zT := zT_in b466 rfl
theorem b467 : (Jvm.Cond.privateMethod ({ cls := "DigitChip$Processor", name := "setStatus", desc := "(I)V" } : Jvm.MethodName)) ∈ lw_tbl := zT_tb (List.mem_append_right tables_1_1 (List.mem_append_left (tables_1_3 ++ tables_1_4) (List.mem_of_getElem? (i := 227) rfl)))
theorem b468 : (Jvm.Cond.instanceMethod ({ cls := "DigitChip$Processor", name := "setStatus", desc := "(I)V" } : Jvm.MethodName)) ∈ lw_tbl := zT_tb (List.mem_append_right tables_1_1 (List.mem_append_left (tables_1_3 ++ tables_1_4) (List.mem_of_getElem? (i := 228) rfl)))
theorem q468 : (Jvm.Cond.instanceMethod ({ cls := "DigitChip$Processor", name := "setStatus", desc := "(I)V" } : Jvm.MethodName)) ∈ zT := zT_in b468 rfl
theorem b469 : (Jvm.Cond.code ({ cls := "DigitChip$Processor", name := "setStatus", desc := "(I)V" } : Jvm.MethodName) prog_3_method_6_code (2 : Nat) (Option.none : Option Jvm.ClassFile.FieldType)) ∈ lw_tbl := zT_tb (List.mem_append_right tables_1_1 (List.mem_append_left (tables_1_3 ++ tables_1_4) (List.mem_of_getElem? (i := 229) rfl)))
theorem q469 : (Jvm.Cond.code ({ cls := "DigitChip$Processor", name := "setStatus", desc := "(I)V" } : Jvm.MethodName) prog_3_method_6_code (2 : Nat) (Option.none : Option Jvm.ClassFile.FieldType)) ∈ zT := zT_in b469 rfl
theorem b470 : (Jvm.Cond.methodLink "DigitChip$Processor" (71 : Nat) ({ cls := "DigitChip$Processor", name := "clearStatus", desc := "(I)V" } : Jvm.MethodName)) ∈ lw_tbl := zT_tb (List.mem_append_right tables_1_1 (List.mem_append_left (tables_1_3 ++ tables_1_4) (List.mem_of_getElem? (i := 230) rfl)))
theorem q470 : (Jvm.Cond.methodLink "DigitChip$Processor" (71 : Nat) ({ cls := "DigitChip$Processor", name := "clearStatus", desc := "(I)V" } : Jvm.MethodName)) ∈ zT := zT_in b470 rfl
theorem b471 : (Jvm.Cond.privateMethod ({ cls := "DigitChip$Processor", name := "clearStatus", desc := "(I)V" } : Jvm.MethodName)) ∈ lw_tbl := zT_tb (List.mem_append_right tables_1_1 (List.mem_append_left (tables_1_3 ++ tables_1_4) (List.mem_of_getElem? (i := 231) rfl)))
theorem b472 : (Jvm.Cond.instanceMethod ({ cls := "DigitChip$Processor", name := "clearStatus", desc := "(I)V" } : Jvm.MethodName)) ∈ lw_tbl := zT_tb (List.mem_append_right tables_1_1 (List.mem_append_left (tables_1_3 ++ tables_1_4) (List.mem_of_getElem? (i := 232) rfl)))
theorem q472 : (Jvm.Cond.instanceMethod ({ cls := "DigitChip$Processor", name := "clearStatus", desc := "(I)V" } : Jvm.MethodName)) ∈ zT := zT_in b472 rfl
theorem b473 : (Jvm.Cond.code ({ cls := "DigitChip$Processor", name := "clearStatus", desc := "(I)V" } : Jvm.MethodName) prog_3_method_7_code (2 : Nat) (Option.none : Option Jvm.ClassFile.FieldType)) ∈ lw_tbl := zT_tb (List.mem_append_right tables_1_1 (List.mem_append_left (tables_1_3 ++ tables_1_4) (List.mem_of_getElem? (i := 233) rfl)))
theorem q473 : (Jvm.Cond.code ({ cls := "DigitChip$Processor", name := "clearStatus", desc := "(I)V" } : Jvm.MethodName) prog_3_method_7_code (2 : Nat) (Option.none : Option Jvm.ClassFile.FieldType)) ∈ zT := zT_in b473 rfl
theorem b474 : (Jvm.Cond.methodLink "DigitChip$Processor" (74 : Nat) ({ cls := "DigitChip$Processor", name := "hasStatus", desc := "(I)Z" } : Jvm.MethodName)) ∈ lw_tbl := zT_tb (List.mem_append_right tables_1_1 (List.mem_append_left (tables_1_3 ++ tables_1_4) (List.mem_of_getElem? (i := 234) rfl)))
theorem q474 : (Jvm.Cond.methodLink "DigitChip$Processor" (74 : Nat) ({ cls := "DigitChip$Processor", name := "hasStatus", desc := "(I)Z" } : Jvm.MethodName)) ∈ zT := zT_in b474 rfl
theorem b475 : (Jvm.Cond.privateMethod ({ cls := "DigitChip$Processor", name := "hasStatus", desc := "(I)Z" } : Jvm.MethodName)) ∈ lw_tbl := zT_tb (List.mem_append_right tables_1_1 (List.mem_append_left (tables_1_3 ++ tables_1_4) (List.mem_of_getElem? (i := 235) rfl)))
theorem b476 : (Jvm.Cond.instanceMethod ({ cls := "DigitChip$Processor", name := "hasStatus", desc := "(I)Z" } : Jvm.MethodName)) ∈ lw_tbl := zT_tb (List.mem_append_right tables_1_1 (List.mem_append_left (tables_1_3 ++ tables_1_4) (List.mem_of_getElem? (i := 236) rfl)))
theorem q476 : (Jvm.Cond.instanceMethod ({ cls := "DigitChip$Processor", name := "hasStatus", desc := "(I)Z" } : Jvm.MethodName)) ∈ zT := zT_in b476 rfl
theorem b477 : (Jvm.Cond.code ({ cls := "DigitChip$Processor", name := "hasStatus", desc := "(I)Z" } : Jvm.MethodName) prog_3_method_8_code (2 : Nat) (Option.some Jvm.ClassFile.FieldType.boolean)) ∈ lw_tbl := zT_tb (List.mem_append_right tables_1_1 (List.mem_append_left (tables_1_3 ++ tables_1_4) (List.mem_of_getElem? (i := 237) rfl)))
theorem q477 : (Jvm.Cond.code ({ cls := "DigitChip$Processor", name := "hasStatus", desc := "(I)Z" } : Jvm.MethodName) prog_3_method_8_code (2 : Nat) (Option.some Jvm.ClassFile.FieldType.boolean)) ∈ zT := zT_in b477 rfl
theorem b478 : (Jvm.Cond.methodLink "DigitChip$Processor" (78 : Nat) ({ cls := "DigitChip$Processor", name := "putDigit", desc := "(I)V" } : Jvm.MethodName)) ∈ lw_tbl := zT_tb (List.mem_append_right tables_1_1 (List.mem_append_left (tables_1_3 ++ tables_1_4) (List.mem_of_getElem? (i := 238) rfl)))
theorem q478 : (Jvm.Cond.methodLink "DigitChip$Processor" (78 : Nat) ({ cls := "DigitChip$Processor", name := "putDigit", desc := "(I)V" } : Jvm.MethodName)) ∈ zT := zT_in b478 rfl
theorem b479 : (Jvm.Cond.privateMethod ({ cls := "DigitChip$Processor", name := "putDigit", desc := "(I)V" } : Jvm.MethodName)) ∈ lw_tbl := zT_tb (List.mem_append_right tables_1_1 (List.mem_append_left (tables_1_3 ++ tables_1_4) (List.mem_of_getElem? (i := 239) rfl)))
theorem b480 : (Jvm.Cond.instanceMethod ({ cls := "DigitChip$Processor", name := "putDigit", desc := "(I)V" } : Jvm.MethodName)) ∈ lw_tbl := zT_tb (List.mem_append_right tables_1_1 (List.mem_append_right tables_1_2 (List.mem_append_left tables_1_4 (List.mem_of_getElem? (i := 0) rfl))))
theorem q480 : (Jvm.Cond.instanceMethod ({ cls := "DigitChip$Processor", name := "putDigit", desc := "(I)V" } : Jvm.MethodName)) ∈ zT := zT_in b480 rfl
theorem b481 : (Jvm.Cond.code ({ cls := "DigitChip$Processor", name := "putDigit", desc := "(I)V" } : Jvm.MethodName) prog_3_method_9_code (2 : Nat) (Option.none : Option Jvm.ClassFile.FieldType)) ∈ lw_tbl := zT_tb (List.mem_append_right tables_1_1 (List.mem_append_right tables_1_2 (List.mem_append_left tables_1_4 (List.mem_of_getElem? (i := 1) rfl))))
theorem q481 : (Jvm.Cond.code ({ cls := "DigitChip$Processor", name := "putDigit", desc := "(I)V" } : Jvm.MethodName) prog_3_method_9_code (2 : Nat) (Option.none : Option Jvm.ClassFile.FieldType)) ∈ zT := zT_in b481 rfl
theorem b482 : (Jvm.Cond.methodLink "DigitChip$Processor" (57 : Nat) ({ cls := "DigitChip$Registers", name := "chooseField", desc := "(II)V" } : Jvm.MethodName)) ∈ lw_tbl := zT_tb (List.mem_append_right tables_1_1 (List.mem_append_right tables_1_2 (List.mem_append_left tables_1_4 (List.mem_of_getElem? (i := 2) rfl))))
theorem q482 : (Jvm.Cond.methodLink "DigitChip$Processor" (57 : Nat) ({ cls := "DigitChip$Registers", name := "chooseField", desc := "(II)V" } : Jvm.MethodName)) ∈ zT := zT_in b482 rfl
theorem b483 : (Jvm.Cond.instanceMethod ({ cls := "DigitChip$Registers", name := "chooseField", desc := "(II)V" } : Jvm.MethodName)) ∈ lw_tbl := zT_tb (List.mem_append_right tables_1_1 (List.mem_append_right tables_1_2 (List.mem_append_left tables_1_4 (List.mem_of_getElem? (i := 3) rfl))))
theorem q483 : (Jvm.Cond.instanceMethod ({ cls := "DigitChip$Registers", name := "chooseField", desc := "(II)V" } : Jvm.MethodName)) ∈ zT := zT_in b483 rfl
theorem b484 : (Jvm.Cond.selects "DigitChip$Registers" ({ cls := "DigitChip$Registers", name := "chooseField", desc := "(II)V" } : Jvm.MethodName) ({ cls := "DigitChip$Registers", name := "chooseField", desc := "(II)V" } : Jvm.MethodName)) ∈ lw_tbl := zT_tb (List.mem_append_right tables_1_1 (List.mem_append_right tables_1_2 (List.mem_append_left tables_1_4 (List.mem_of_getElem? (i := 4) rfl))))
theorem q484 : (Jvm.Cond.selects "DigitChip$Registers" ({ cls := "DigitChip$Registers", name := "chooseField", desc := "(II)V" } : Jvm.MethodName) ({ cls := "DigitChip$Registers", name := "chooseField", desc := "(II)V" } : Jvm.MethodName)) ∈ zT := zT_in b484 rfl
theorem b485 : (Jvm.Cond.code ({ cls := "DigitChip$Registers", name := "chooseField", desc := "(II)V" } : Jvm.MethodName) prog_4_method_3_code (3 : Nat) (Option.none : Option Jvm.ClassFile.FieldType)) ∈ lw_tbl := zT_tb (List.mem_append_right tables_1_1 (List.mem_append_right tables_1_2 (List.mem_append_left tables_1_4 (List.mem_of_getElem? (i := 5) rfl))))
theorem q485 : (Jvm.Cond.code ({ cls := "DigitChip$Registers", name := "chooseField", desc := "(II)V" } : Jvm.MethodName) prog_4_method_3_code (3 : Nat) (Option.none : Option Jvm.ClassFile.FieldType)) ∈ zT := zT_in b485 rfl
theorem b486 : (Jvm.Cond.methodLink "DigitChip$Registers" (27 : Nat) ({ cls := "DigitChip$Registers", name := "chooseDigits", desc := "(II)V" } : Jvm.MethodName)) ∈ lw_tbl := zT_tb (List.mem_append_right tables_1_1 (List.mem_append_right tables_1_2 (List.mem_append_left tables_1_4 (List.mem_of_getElem? (i := 6) rfl))))
theorem q486 : (Jvm.Cond.methodLink "DigitChip$Registers" (27 : Nat) ({ cls := "DigitChip$Registers", name := "chooseDigits", desc := "(II)V" } : Jvm.MethodName)) ∈ zT := zT_in b486 rfl
theorem b487 : (Jvm.Cond.privateMethod ({ cls := "DigitChip$Registers", name := "chooseDigits", desc := "(II)V" } : Jvm.MethodName)) ∈ lw_tbl := zT_tb (List.mem_append_right tables_1_1 (List.mem_append_right tables_1_2 (List.mem_append_left tables_1_4 (List.mem_of_getElem? (i := 7) rfl))))
theorem b488 : (Jvm.Cond.instanceMethod ({ cls := "DigitChip$Registers", name := "chooseDigits", desc := "(II)V" } : Jvm.MethodName)) ∈ lw_tbl := zT_tb (List.mem_append_right tables_1_1 (List.mem_append_right tables_1_2 (List.mem_append_left tables_1_4 (List.mem_of_getElem? (i := 8) rfl))))
theorem q488 : (Jvm.Cond.instanceMethod ({ cls := "DigitChip$Registers", name := "chooseDigits", desc := "(II)V" } : Jvm.MethodName)) ∈ zT := zT_in b488 rfl
theorem b489 : (Jvm.Cond.code ({ cls := "DigitChip$Registers", name := "chooseDigits", desc := "(II)V" } : Jvm.MethodName) prog_4_method_4_code (3 : Nat) (Option.none : Option Jvm.ClassFile.FieldType)) ∈ lw_tbl := zT_tb (List.mem_append_right tables_1_1 (List.mem_append_right tables_1_2 (List.mem_append_left tables_1_4 (List.mem_of_getElem? (i := 9) rfl))))
theorem q489 : (Jvm.Cond.code ({ cls := "DigitChip$Registers", name := "chooseDigits", desc := "(II)V" } : Jvm.MethodName) prog_4_method_4_code (3 : Nat) (Option.none : Option Jvm.ClassFile.FieldType)) ∈ zT := zT_in b489 rfl
theorem b490 : (Jvm.Cond.methodLink "DigitChip$Processor" (99 : Nat) ({ cls := "DigitChip$Registers", name := "putPart", desc := "(IJ)V" } : Jvm.MethodName)) ∈ lw_tbl := zT_tb (List.mem_append_right tables_1_1 (List.mem_append_right tables_1_2 (List.mem_append_left tables_1_4 (List.mem_of_getElem? (i := 10) rfl))))
theorem q490 : (Jvm.Cond.methodLink "DigitChip$Processor" (99 : Nat) ({ cls := "DigitChip$Registers", name := "putPart", desc := "(IJ)V" } : Jvm.MethodName)) ∈ zT := zT_in b490 rfl
theorem b491 : (Jvm.Cond.instanceMethod ({ cls := "DigitChip$Registers", name := "putPart", desc := "(IJ)V" } : Jvm.MethodName)) ∈ lw_tbl := zT_tb (List.mem_append_right tables_1_1 (List.mem_append_right tables_1_2 (List.mem_append_left tables_1_4 (List.mem_of_getElem? (i := 11) rfl))))
theorem q491 : (Jvm.Cond.instanceMethod ({ cls := "DigitChip$Registers", name := "putPart", desc := "(IJ)V" } : Jvm.MethodName)) ∈ zT := zT_in b491 rfl
theorem b492 : (Jvm.Cond.selects "DigitChip$Registers" ({ cls := "DigitChip$Registers", name := "putPart", desc := "(IJ)V" } : Jvm.MethodName) ({ cls := "DigitChip$Registers", name := "putPart", desc := "(IJ)V" } : Jvm.MethodName)) ∈ lw_tbl := zT_tb (List.mem_append_right tables_1_1 (List.mem_append_right tables_1_2 (List.mem_append_left tables_1_4 (List.mem_of_getElem? (i := 12) rfl))))
theorem q492 : (Jvm.Cond.selects "DigitChip$Registers" ({ cls := "DigitChip$Registers", name := "putPart", desc := "(IJ)V" } : Jvm.MethodName) ({ cls := "DigitChip$Registers", name := "putPart", desc := "(IJ)V" } : Jvm.MethodName)) ∈ zT := zT_in b492 rfl
theorem b493 : (Jvm.Cond.code ({ cls := "DigitChip$Registers", name := "putPart", desc := "(IJ)V" } : Jvm.MethodName) prog_4_method_6_code (4 : Nat) (Option.none : Option Jvm.ClassFile.FieldType)) ∈ lw_tbl := zT_tb (List.mem_append_right tables_1_1 (List.mem_append_right tables_1_2 (List.mem_append_left tables_1_4 (List.mem_of_getElem? (i := 13) rfl))))
theorem q493 : (Jvm.Cond.code ({ cls := "DigitChip$Registers", name := "putPart", desc := "(IJ)V" } : Jvm.MethodName) prog_4_method_6_code (4 : Nat) (Option.none : Option Jvm.ClassFile.FieldType)) ∈ zT := zT_in b493 rfl
theorem b494 : (Jvm.Cond.methodLink "DigitChip$Registers" (31 : Nat) ({ cls := "DigitChip$Registers", name := "part", desc := "(I)J" } : Jvm.MethodName)) ∈ lw_tbl := zT_tb (List.mem_append_right tables_1_1 (List.mem_append_right tables_1_2 (List.mem_append_left tables_1_4 (List.mem_of_getElem? (i := 14) rfl))))
theorem q494 : (Jvm.Cond.methodLink "DigitChip$Registers" (31 : Nat) ({ cls := "DigitChip$Registers", name := "part", desc := "(I)J" } : Jvm.MethodName)) ∈ zT := zT_in b494 rfl
theorem b495 : (Jvm.Cond.instanceMethod ({ cls := "DigitChip$Registers", name := "part", desc := "(I)J" } : Jvm.MethodName)) ∈ lw_tbl := zT_tb (List.mem_append_right tables_1_1 (List.mem_append_right tables_1_2 (List.mem_append_left tables_1_4 (List.mem_of_getElem? (i := 15) rfl))))
theorem q495 : (Jvm.Cond.instanceMethod ({ cls := "DigitChip$Registers", name := "part", desc := "(I)J" } : Jvm.MethodName)) ∈ zT := zT_in b495 rfl
theorem b496 : (Jvm.Cond.selects "DigitChip$Registers" ({ cls := "DigitChip$Registers", name := "part", desc := "(I)J" } : Jvm.MethodName) ({ cls := "DigitChip$Registers", name := "part", desc := "(I)J" } : Jvm.MethodName)) ∈ lw_tbl := zT_tb (List.mem_append_right tables_1_1 (List.mem_append_right tables_1_2 (List.mem_append_left tables_1_4 (List.mem_of_getElem? (i := 16) rfl))))
theorem q496 : (Jvm.Cond.selects "DigitChip$Registers" ({ cls := "DigitChip$Registers", name := "part", desc := "(I)J" } : Jvm.MethodName) ({ cls := "DigitChip$Registers", name := "part", desc := "(I)J" } : Jvm.MethodName)) ∈ zT := zT_in b496 rfl
theorem b497 : (Jvm.Cond.code ({ cls := "DigitChip$Registers", name := "part", desc := "(I)J" } : Jvm.MethodName) prog_4_method_5_code (2 : Nat) (Option.some Jvm.ClassFile.FieldType.long)) ∈ lw_tbl := zT_tb (List.mem_append_right tables_1_1 (List.mem_append_right tables_1_2 (List.mem_append_left tables_1_4 (List.mem_of_getElem? (i := 17) rfl))))
theorem q497 : (Jvm.Cond.code ({ cls := "DigitChip$Registers", name := "part", desc := "(I)J" } : Jvm.MethodName) prog_4_method_5_code (2 : Nat) (Option.some Jvm.ClassFile.FieldType.long)) ∈ zT := zT_in b497 rfl
theorem b498 : (Jvm.Cond.methodLink "DigitChip$Processor" (81 : Nat) ({ cls := "DigitChip$Processor", name := "lowerPointer", desc := "()V" } : Jvm.MethodName)) ∈ lw_tbl := zT_tb (List.mem_append_right tables_1_1 (List.mem_append_right tables_1_2 (List.mem_append_left tables_1_4 (List.mem_of_getElem? (i := 18) rfl))))
theorem q498 : (Jvm.Cond.methodLink "DigitChip$Processor" (81 : Nat) ({ cls := "DigitChip$Processor", name := "lowerPointer", desc := "()V" } : Jvm.MethodName)) ∈ zT := zT_in b498 rfl
theorem b499 : (Jvm.Cond.privateMethod ({ cls := "DigitChip$Processor", name := "lowerPointer", desc := "()V" } : Jvm.MethodName)) ∈ lw_tbl := zT_tb (List.mem_append_right tables_1_1 (List.mem_append_right tables_1_2 (List.mem_append_left tables_1_4 (List.mem_of_getElem? (i := 19) rfl))))
theorem b500 : (Jvm.Cond.instanceMethod ({ cls := "DigitChip$Processor", name := "lowerPointer", desc := "()V" } : Jvm.MethodName)) ∈ lw_tbl := zT_tb (List.mem_append_right tables_1_1 (List.mem_append_right tables_1_2 (List.mem_append_left tables_1_4 (List.mem_of_getElem? (i := 20) rfl))))
theorem q500 : (Jvm.Cond.instanceMethod ({ cls := "DigitChip$Processor", name := "lowerPointer", desc := "()V" } : Jvm.MethodName)) ∈ zT := zT_in b500 rfl
theorem b501 : (Jvm.Cond.code ({ cls := "DigitChip$Processor", name := "lowerPointer", desc := "()V" } : Jvm.MethodName) prog_3_method_10_code (1 : Nat) (Option.none : Option Jvm.ClassFile.FieldType)) ∈ lw_tbl := zT_tb (List.mem_append_right tables_1_1 (List.mem_append_right tables_1_2 (List.mem_append_left tables_1_4 (List.mem_of_getElem? (i := 21) rfl))))
theorem q501 : (Jvm.Cond.code ({ cls := "DigitChip$Processor", name := "lowerPointer", desc := "()V" } : Jvm.MethodName) prog_3_method_10_code (1 : Nat) (Option.none : Option Jvm.ClassFile.FieldType)) ∈ zT := zT_in b501 rfl
theorem b502 : (Jvm.Cond.methodLink "DigitChip$Processor" (84 : Nat) ({ cls := "DigitChip$Processor", name := "push", desc := "()V" } : Jvm.MethodName)) ∈ lw_tbl := zT_tb (List.mem_append_right tables_1_1 (List.mem_append_right tables_1_2 (List.mem_append_left tables_1_4 (List.mem_of_getElem? (i := 22) rfl))))
theorem q502 : (Jvm.Cond.methodLink "DigitChip$Processor" (84 : Nat) ({ cls := "DigitChip$Processor", name := "push", desc := "()V" } : Jvm.MethodName)) ∈ zT := zT_in b502 rfl
theorem b503 : (Jvm.Cond.privateMethod ({ cls := "DigitChip$Processor", name := "push", desc := "()V" } : Jvm.MethodName)) ∈ lw_tbl := zT_tb (List.mem_append_right tables_1_1 (List.mem_append_right tables_1_2 (List.mem_append_left tables_1_4 (List.mem_of_getElem? (i := 23) rfl))))
theorem b504 : (Jvm.Cond.instanceMethod ({ cls := "DigitChip$Processor", name := "push", desc := "()V" } : Jvm.MethodName)) ∈ lw_tbl := zT_tb (List.mem_append_right tables_1_1 (List.mem_append_right tables_1_2 (List.mem_append_left tables_1_4 (List.mem_of_getElem? (i := 24) rfl))))
theorem q504 : (Jvm.Cond.instanceMethod ({ cls := "DigitChip$Processor", name := "push", desc := "()V" } : Jvm.MethodName)) ∈ zT := zT_in b504 rfl
theorem b505 : (Jvm.Cond.code ({ cls := "DigitChip$Processor", name := "push", desc := "()V" } : Jvm.MethodName) prog_3_method_12_code (1 : Nat) (Option.none : Option Jvm.ClassFile.FieldType)) ∈ lw_tbl := zT_tb (List.mem_append_right tables_1_1 (List.mem_append_right tables_1_2 (List.mem_append_left tables_1_4 (List.mem_of_getElem? (i := 25) rfl))))
theorem q505 : (Jvm.Cond.code ({ cls := "DigitChip$Processor", name := "push", desc := "()V" } : Jvm.MethodName) prog_3_method_12_code (1 : Nat) (Option.none : Option Jvm.ClassFile.FieldType)) ∈ zT := zT_in b505 rfl
theorem b506 : (Jvm.Cond.methodLink "DigitChip$Processor" (87 : Nat) ({ cls := "DigitChip$Processor", name := "copy", desc := "(II)V" } : Jvm.MethodName)) ∈ lw_tbl := zT_tb (List.mem_append_right tables_1_1 (List.mem_append_right tables_1_2 (List.mem_append_left tables_1_4 (List.mem_of_getElem? (i := 26) rfl))))
theorem q506 : (Jvm.Cond.methodLink "DigitChip$Processor" (87 : Nat) ({ cls := "DigitChip$Processor", name := "copy", desc := "(II)V" } : Jvm.MethodName)) ∈ zT := zT_in b506 rfl
theorem b507 : (Jvm.Cond.privateMethod ({ cls := "DigitChip$Processor", name := "copy", desc := "(II)V" } : Jvm.MethodName)) ∈ lw_tbl := zT_tb (List.mem_append_right tables_1_1 (List.mem_append_right tables_1_2 (List.mem_append_left tables_1_4 (List.mem_of_getElem? (i := 27) rfl))))
theorem b508 : (Jvm.Cond.instanceMethod ({ cls := "DigitChip$Processor", name := "copy", desc := "(II)V" } : Jvm.MethodName)) ∈ lw_tbl := zT_tb (List.mem_append_right tables_1_1 (List.mem_append_right tables_1_2 (List.mem_append_left tables_1_4 (List.mem_of_getElem? (i := 28) rfl))))
theorem q508 : (Jvm.Cond.instanceMethod ({ cls := "DigitChip$Processor", name := "copy", desc := "(II)V" } : Jvm.MethodName)) ∈ zT := zT_in b508 rfl
theorem b509 : (Jvm.Cond.code ({ cls := "DigitChip$Processor", name := "copy", desc := "(II)V" } : Jvm.MethodName) prog_3_method_11_code (3 : Nat) (Option.none : Option Jvm.ClassFile.FieldType)) ∈ lw_tbl := zT_tb (List.mem_append_right tables_1_1 (List.mem_append_right tables_1_2 (List.mem_append_left tables_1_4 (List.mem_of_getElem? (i := 29) rfl))))
theorem q509 : (Jvm.Cond.code ({ cls := "DigitChip$Processor", name := "copy", desc := "(II)V" } : Jvm.MethodName) prog_3_method_11_code (3 : Nat) (Option.none : Option Jvm.ClassFile.FieldType)) ∈ zT := zT_in b509 rfl
theorem b510 : (Jvm.Cond.methodLink "DigitChip$Processor" (90 : Nat) ({ cls := "DigitChip$Processor", name := "lowerStack", desc := "()V" } : Jvm.MethodName)) ∈ lw_tbl := zT_tb (List.mem_append_right tables_1_1 (List.mem_append_right tables_1_2 (List.mem_append_left tables_1_4 (List.mem_of_getElem? (i := 30) rfl))))
theorem q510 : (Jvm.Cond.methodLink "DigitChip$Processor" (90 : Nat) ({ cls := "DigitChip$Processor", name := "lowerStack", desc := "()V" } : Jvm.MethodName)) ∈ zT := zT_in b510 rfl
theorem b511 : (Jvm.Cond.privateMethod ({ cls := "DigitChip$Processor", name := "lowerStack", desc := "()V" } : Jvm.MethodName)) ∈ lw_tbl := zT_tb (List.mem_append_right tables_1_1 (List.mem_append_right tables_1_2 (List.mem_append_left tables_1_4 (List.mem_of_getElem? (i := 31) rfl))))
theorem b512 : (Jvm.Cond.instanceMethod ({ cls := "DigitChip$Processor", name := "lowerStack", desc := "()V" } : Jvm.MethodName)) ∈ lw_tbl := zT_tb (List.mem_append_right tables_1_1 (List.mem_append_right tables_1_2 (List.mem_append_left tables_1_4 (List.mem_of_getElem? (i := 32) rfl))))
theorem q512 : (Jvm.Cond.instanceMethod ({ cls := "DigitChip$Processor", name := "lowerStack", desc := "()V" } : Jvm.MethodName)) ∈ zT := zT_in b512 rfl
theorem b513 : (Jvm.Cond.code ({ cls := "DigitChip$Processor", name := "lowerStack", desc := "()V" } : Jvm.MethodName) prog_3_method_13_code (1 : Nat) (Option.none : Option Jvm.ClassFile.FieldType)) ∈ lw_tbl := zT_tb (List.mem_append_right tables_1_1 (List.mem_append_right tables_1_2 (List.mem_append_left tables_1_4 (List.mem_of_getElem? (i := 33) rfl))))
theorem q513 : (Jvm.Cond.code ({ cls := "DigitChip$Processor", name := "lowerStack", desc := "()V" } : Jvm.MethodName) prog_3_method_13_code (1 : Nat) (Option.none : Option Jvm.ClassFile.FieldType)) ∈ zT := zT_in b513 rfl
theorem b514 : (Jvm.Cond.methodLink "DigitChip$Processor" (93 : Nat) ({ cls := "DigitChip$Processor", name := "takeKey", desc := "()V" } : Jvm.MethodName)) ∈ lw_tbl := zT_tb (List.mem_append_right tables_1_1 (List.mem_append_right tables_1_2 (List.mem_append_left tables_1_4 (List.mem_of_getElem? (i := 34) rfl))))
theorem q514 : (Jvm.Cond.methodLink "DigitChip$Processor" (93 : Nat) ({ cls := "DigitChip$Processor", name := "takeKey", desc := "()V" } : Jvm.MethodName)) ∈ zT := zT_in b514 rfl
theorem b515 : (Jvm.Cond.privateMethod ({ cls := "DigitChip$Processor", name := "takeKey", desc := "()V" } : Jvm.MethodName)) ∈ lw_tbl := zT_tb (List.mem_append_right tables_1_1 (List.mem_append_right tables_1_2 (List.mem_append_left tables_1_4 (List.mem_of_getElem? (i := 35) rfl))))
theorem b516 : (Jvm.Cond.instanceMethod ({ cls := "DigitChip$Processor", name := "takeKey", desc := "()V" } : Jvm.MethodName)) ∈ lw_tbl := zT_tb (List.mem_append_right tables_1_1 (List.mem_append_right tables_1_2 (List.mem_append_left tables_1_4 (List.mem_of_getElem? (i := 36) rfl))))
theorem q516 : (Jvm.Cond.instanceMethod ({ cls := "DigitChip$Processor", name := "takeKey", desc := "()V" } : Jvm.MethodName)) ∈ zT := zT_in b516 rfl
theorem b517 : (Jvm.Cond.code ({ cls := "DigitChip$Processor", name := "takeKey", desc := "()V" } : Jvm.MethodName) prog_3_method_14_code (2 : Nat) (Option.none : Option Jvm.ClassFile.FieldType)) ∈ lw_tbl := zT_tb (List.mem_append_right tables_1_1 (List.mem_append_right tables_1_2 (List.mem_append_left tables_1_4 (List.mem_of_getElem? (i := 37) rfl))))
theorem q517 : (Jvm.Cond.code ({ cls := "DigitChip$Processor", name := "takeKey", desc := "()V" } : Jvm.MethodName) prog_3_method_14_code (2 : Nat) (Option.none : Option Jvm.ClassFile.FieldType)) ∈ zT := zT_in b517 rfl
theorem b518 : (Jvm.Cond.methodLink "DigitChip$Processor" (107 : Nat) ({ cls := "DigitChip$Waiting", name := "takeFirst", desc := "()I" } : Jvm.MethodName)) ∈ lw_tbl := zT_tb (List.mem_append_right tables_1_1 (List.mem_append_right tables_1_2 (List.mem_append_left tables_1_4 (List.mem_of_getElem? (i := 38) rfl))))
theorem q518 : (Jvm.Cond.methodLink "DigitChip$Processor" (107 : Nat) ({ cls := "DigitChip$Waiting", name := "takeFirst", desc := "()I" } : Jvm.MethodName)) ∈ zT := zT_in b518 rfl
theorem b519 : (Jvm.Cond.instanceMethod ({ cls := "DigitChip$Waiting", name := "takeFirst", desc := "()I" } : Jvm.MethodName)) ∈ lw_tbl := zT_tb (List.mem_append_right tables_1_1 (List.mem_append_right tables_1_2 (List.mem_append_left tables_1_4 (List.mem_of_getElem? (i := 39) rfl))))
theorem q519 : (Jvm.Cond.instanceMethod ({ cls := "DigitChip$Waiting", name := "takeFirst", desc := "()I" } : Jvm.MethodName)) ∈ zT := zT_in b519 rfl
theorem b520 : (Jvm.Cond.selects "DigitChip$Waiting" ({ cls := "DigitChip$Waiting", name := "takeFirst", desc := "()I" } : Jvm.MethodName) ({ cls := "DigitChip$Waiting", name := "takeFirst", desc := "()I" } : Jvm.MethodName)) ∈ lw_tbl := zT_tb (List.mem_append_right tables_1_1 (List.mem_append_right tables_1_2 (List.mem_append_left tables_1_4 (List.mem_of_getElem? (i := 40) rfl))))
theorem q520 : (Jvm.Cond.selects "DigitChip$Waiting" ({ cls := "DigitChip$Waiting", name := "takeFirst", desc := "()I" } : Jvm.MethodName) ({ cls := "DigitChip$Waiting", name := "takeFirst", desc := "()I" } : Jvm.MethodName)) ∈ zT := zT_in b520 rfl
theorem b521 : (Jvm.Cond.code ({ cls := "DigitChip$Waiting", name := "takeFirst", desc := "()I" } : Jvm.MethodName) prog_5_method_3_code (3 : Nat) (Option.some Jvm.ClassFile.FieldType.int)) ∈ lw_tbl := zT_tb (List.mem_append_right tables_1_1 (List.mem_append_right tables_1_2 (List.mem_append_left tables_1_4 (List.mem_of_getElem? (i := 41) rfl))))
theorem q521 : (Jvm.Cond.code ({ cls := "DigitChip$Waiting", name := "takeFirst", desc := "()I" } : Jvm.MethodName) prog_5_method_3_code (3 : Nat) (Option.some Jvm.ClassFile.FieldType.int)) ∈ zT := zT_in b521 rfl
theorem b522 : (Jvm.Cond.methodLink "DigitChip$Processor" (96 : Nat) ({ cls := "DigitChip$Processor", name := "exchangeMemory", desc := "()V" } : Jvm.MethodName)) ∈ lw_tbl := zT_tb (List.mem_append_right tables_1_1 (List.mem_append_right tables_1_2 (List.mem_append_left tables_1_4 (List.mem_of_getElem? (i := 42) rfl))))
theorem q522 : (Jvm.Cond.methodLink "DigitChip$Processor" (96 : Nat) ({ cls := "DigitChip$Processor", name := "exchangeMemory", desc := "()V" } : Jvm.MethodName)) ∈ zT := zT_in b522 rfl
theorem b523 : (Jvm.Cond.privateMethod ({ cls := "DigitChip$Processor", name := "exchangeMemory", desc := "()V" } : Jvm.MethodName)) ∈ lw_tbl := zT_tb (List.mem_append_right tables_1_1 (List.mem_append_right tables_1_2 (List.mem_append_left tables_1_4 (List.mem_of_getElem? (i := 43) rfl))))
theorem b524 : (Jvm.Cond.instanceMethod ({ cls := "DigitChip$Processor", name := "exchangeMemory", desc := "()V" } : Jvm.MethodName)) ∈ lw_tbl := zT_tb (List.mem_append_right tables_1_1 (List.mem_append_right tables_1_2 (List.mem_append_left tables_1_4 (List.mem_of_getElem? (i := 44) rfl))))
theorem q524 : (Jvm.Cond.instanceMethod ({ cls := "DigitChip$Processor", name := "exchangeMemory", desc := "()V" } : Jvm.MethodName)) ∈ zT := zT_in b524 rfl
theorem b525 : (Jvm.Cond.code ({ cls := "DigitChip$Processor", name := "exchangeMemory", desc := "()V" } : Jvm.MethodName) prog_3_method_15_code (3 : Nat) (Option.none : Option Jvm.ClassFile.FieldType)) ∈ lw_tbl := zT_tb (List.mem_append_right tables_1_1 (List.mem_append_right tables_1_2 (List.mem_append_left tables_1_4 (List.mem_of_getElem? (i := 45) rfl))))
theorem q525 : (Jvm.Cond.code ({ cls := "DigitChip$Processor", name := "exchangeMemory", desc := "()V" } : Jvm.MethodName) prog_3_method_15_code (3 : Nat) (Option.none : Option Jvm.ClassFile.FieldType)) ∈ zT := zT_in b525 rfl
theorem b526 : (Jvm.Cond.methodLink "DigitChip$Processor" (60 : Nat) ({ cls := "DigitChip$Registers", name := "part", desc := "(I)J" } : Jvm.MethodName)) ∈ lw_tbl := zT_tb (List.mem_append_right tables_1_1 (List.mem_append_right tables_1_2 (List.mem_append_left tables_1_4 (List.mem_of_getElem? (i := 46) rfl))))
theorem q526 : (Jvm.Cond.methodLink "DigitChip$Processor" (60 : Nat) ({ cls := "DigitChip$Registers", name := "part", desc := "(I)J" } : Jvm.MethodName)) ∈ zT := zT_in b526 rfl
theorem b527 : (Jvm.Cond.methodLink "DigitChip$Processor" (64 : Nat) ({ cls := "DigitChip$Processor", name := "doFieldWork", desc := "(IJJJ)V" } : Jvm.MethodName)) ∈ lw_tbl := zT_tb (List.mem_append_right tables_1_1 (List.mem_append_right tables_1_2 (List.mem_append_left tables_1_4 (List.mem_of_getElem? (i := 47) rfl))))
theorem q527 : (Jvm.Cond.methodLink "DigitChip$Processor" (64 : Nat) ({ cls := "DigitChip$Processor", name := "doFieldWork", desc := "(IJJJ)V" } : Jvm.MethodName)) ∈ zT := zT_in b527 rfl
theorem b528 : (Jvm.Cond.privateMethod ({ cls := "DigitChip$Processor", name := "doFieldWork", desc := "(IJJJ)V" } : Jvm.MethodName)) ∈ lw_tbl := zT_tb (List.mem_append_right tables_1_1 (List.mem_append_right tables_1_2 (List.mem_append_left tables_1_4 (List.mem_of_getElem? (i := 48) rfl))))
theorem b529 : (Jvm.Cond.instanceMethod ({ cls := "DigitChip$Processor", name := "doFieldWork", desc := "(IJJJ)V" } : Jvm.MethodName)) ∈ lw_tbl := zT_tb (List.mem_append_right tables_1_1 (List.mem_append_right tables_1_2 (List.mem_append_left tables_1_4 (List.mem_of_getElem? (i := 49) rfl))))
theorem q529 : (Jvm.Cond.instanceMethod ({ cls := "DigitChip$Processor", name := "doFieldWork", desc := "(IJJJ)V" } : Jvm.MethodName)) ∈ zT := zT_in b529 rfl
theorem b530 : (Jvm.Cond.code ({ cls := "DigitChip$Processor", name := "doFieldWork", desc := "(IJJJ)V" } : Jvm.MethodName) prog_3_method_16_code (8 : Nat) (Option.none : Option Jvm.ClassFile.FieldType)) ∈ lw_tbl := zT_tb (List.mem_append_right tables_1_1 (List.mem_append_right tables_1_2 (List.mem_append_left tables_1_4 (List.mem_of_getElem? (i := 50) rfl))))
theorem q530 : (Jvm.Cond.code ({ cls := "DigitChip$Processor", name := "doFieldWork", desc := "(IJJJ)V" } : Jvm.MethodName) prog_3_method_16_code (8 : Nat) (Option.none : Option Jvm.ClassFile.FieldType)) ∈ zT := zT_in b530 rfl
theorem b531 : (Jvm.Cond.methodLink "DigitChip$Processor" (111 : Nat) ({ cls := "DigitChip$Processor", name := "putResult", desc := "(IJ)V" } : Jvm.MethodName)) ∈ lw_tbl := zT_tb (List.mem_append_right tables_1_1 (List.mem_append_right tables_1_2 (List.mem_append_left tables_1_4 (List.mem_of_getElem? (i := 51) rfl))))
theorem q531 : (Jvm.Cond.methodLink "DigitChip$Processor" (111 : Nat) ({ cls := "DigitChip$Processor", name := "putResult", desc := "(IJ)V" } : Jvm.MethodName)) ∈ zT := zT_in b531 rfl
theorem b532 : (Jvm.Cond.privateMethod ({ cls := "DigitChip$Processor", name := "putResult", desc := "(IJ)V" } : Jvm.MethodName)) ∈ lw_tbl := zT_tb (List.mem_append_right tables_1_1 (List.mem_append_right tables_1_2 (List.mem_append_left tables_1_4 (List.mem_of_getElem? (i := 52) rfl))))
theorem b533 : (Jvm.Cond.instanceMethod ({ cls := "DigitChip$Processor", name := "putResult", desc := "(IJ)V" } : Jvm.MethodName)) ∈ lw_tbl := zT_tb (List.mem_append_right tables_1_1 (List.mem_append_right tables_1_2 (List.mem_append_left tables_1_4 (List.mem_of_getElem? (i := 53) rfl))))
theorem q533 : (Jvm.Cond.instanceMethod ({ cls := "DigitChip$Processor", name := "putResult", desc := "(IJ)V" } : Jvm.MethodName)) ∈ zT := zT_in b533 rfl
theorem b534 : (Jvm.Cond.code ({ cls := "DigitChip$Processor", name := "putResult", desc := "(IJ)V" } : Jvm.MethodName) prog_3_method_17_code (4 : Nat) (Option.none : Option Jvm.ClassFile.FieldType)) ∈ lw_tbl := zT_tb (List.mem_append_right tables_1_1 (List.mem_append_right tables_1_2 (List.mem_append_left tables_1_4 (List.mem_of_getElem? (i := 54) rfl))))
theorem q534 : (Jvm.Cond.code ({ cls := "DigitChip$Processor", name := "putResult", desc := "(IJ)V" } : Jvm.MethodName) prog_3_method_17_code (4 : Nat) (Option.none : Option Jvm.ClassFile.FieldType)) ∈ zT := zT_in b534 rfl
theorem b535 : (Jvm.Cond.methodLink "DigitChip$Processor" (120 : Nat) ({ cls := "java/lang/Math", name := "floorMod", desc := "(JJ)J" } : Jvm.MethodName)) ∈ lw_tbl := zT_tb (List.mem_append_right tables_1_1 (List.mem_append_right tables_1_2 (List.mem_append_left tables_1_4 (List.mem_of_getElem? (i := 55) rfl))))
theorem q535 : (Jvm.Cond.methodLink "DigitChip$Processor" (120 : Nat) ({ cls := "java/lang/Math", name := "floorMod", desc := "(JJ)J" } : Jvm.MethodName)) ∈ zT := zT_in b535 rfl
theorem b536 : (Jvm.Cond.static ({ cls := "java/lang/Math", name := "floorMod", desc := "(JJ)J" } : Jvm.MethodName)) ∈ lw_tbl := zT_tb (List.mem_append_right tables_1_1 (List.mem_append_right tables_1_2 (List.mem_append_left tables_1_4 (List.mem_of_getElem? (i := 56) rfl))))
theorem q536 : (Jvm.Cond.static ({ cls := "java/lang/Math", name := "floorMod", desc := "(JJ)J" } : Jvm.MethodName)) ∈ zT := zT_in b536 rfl
theorem b537 : (Jvm.Cond.code ({ cls := "java/lang/Math", name := "floorMod", desc := "(JJ)J" } : Jvm.MethodName) prog_11_method_52_code (6 : Nat) (Option.some Jvm.ClassFile.FieldType.long)) ∈ lw_tbl := zT_tb (List.mem_append_right tables_1_1 (List.mem_append_right tables_1_2 (List.mem_append_left tables_1_4 (List.mem_of_getElem? (i := 57) rfl))))
theorem q537 : (Jvm.Cond.code ({ cls := "java/lang/Math", name := "floorMod", desc := "(JJ)J" } : Jvm.MethodName) prog_11_method_52_code (6 : Nat) (Option.some Jvm.ClassFile.FieldType.long)) ∈ zT := zT_in b537 rfl
theorem b538 : (Jvm.Cond.constantLong "DigitChip$Processor" (114 : Nat) (10 : Int64)) ∈ lw_tbl := zT_tb (List.mem_append_right tables_1_1 (List.mem_append_right tables_1_2 (List.mem_append_left tables_1_4 (List.mem_of_getElem? (i := 58) rfl))))
theorem q538 : (Jvm.Cond.constantLong "DigitChip$Processor" (114 : Nat) (10 : Int64)) ∈ zT := zT_in b538 rfl
theorem b539 : (Jvm.Cond.classLink "DigitChipLaw" (20 : Nat) "DigitChipModel") ∈ lw_tbl := zT_tb (List.mem_append_right tables_1_1 (List.mem_append_right tables_1_2 (List.mem_append_left tables_1_4 (List.mem_of_getElem? (i := 59) rfl))))
theorem q539 : (Jvm.Cond.classLink "DigitChipLaw" (20 : Nat) "DigitChipModel") ∈ zT := zT_in b539 rfl
theorem b540 : (Jvm.Cond.instantiable "DigitChipModel" (21 : Nat)) ∈ lw_tbl := zT_tb (List.mem_append_right tables_1_1 (List.mem_append_right tables_1_2 (List.mem_append_left tables_1_4 (List.mem_of_getElem? (i := 60) rfl))))
theorem q540 : (Jvm.Cond.instantiable "DigitChipModel" (21 : Nat)) ∈ zT := zT_in b540 rfl
theorem b541 : (Jvm.Cond.methodLink "DigitChipLaw" (22 : Nat) ({ cls := "DigitChipModel", name := "<init>", desc := "()V" } : Jvm.MethodName)) ∈ lw_tbl := zT_tb (List.mem_append_right tables_1_1 (List.mem_append_right tables_1_2 (List.mem_append_left tables_1_4 (List.mem_of_getElem? (i := 61) rfl))))
theorem q541 : (Jvm.Cond.methodLink "DigitChipLaw" (22 : Nat) ({ cls := "DigitChipModel", name := "<init>", desc := "()V" } : Jvm.MethodName)) ∈ zT := zT_in b541 rfl
theorem b542 : (Jvm.Cond.instanceMethod ({ cls := "DigitChipModel", name := "<init>", desc := "()V" } : Jvm.MethodName)) ∈ lw_tbl := zT_tb (List.mem_append_right tables_1_1 (List.mem_append_right tables_1_2 (List.mem_append_left tables_1_4 (List.mem_of_getElem? (i := 62) rfl))))
theorem q542 : (Jvm.Cond.instanceMethod ({ cls := "DigitChipModel", name := "<init>", desc := "()V" } : Jvm.MethodName)) ∈ zT := zT_in b542 rfl
theorem b543 : (Jvm.Cond.code ({ cls := "DigitChipModel", name := "<init>", desc := "()V" } : Jvm.MethodName) prog_7_method_1_code (2 : Nat) (Option.none : Option Jvm.ClassFile.FieldType)) ∈ lw_tbl := zT_tb (List.mem_append_right tables_1_1 (List.mem_append_right tables_1_2 (List.mem_append_left tables_1_4 (List.mem_of_getElem? (i := 63) rfl))))
theorem q543 : (Jvm.Cond.code ({ cls := "DigitChipModel", name := "<init>", desc := "()V" } : Jvm.MethodName) prog_7_method_1_code (2 : Nat) (Option.none : Option Jvm.ClassFile.FieldType)) ∈ zT := zT_in b543 rfl
theorem b544 : (Jvm.Cond.methodLink "DigitChipModel" (1 : Nat) ({ cls := "java/lang/Object", name := "<init>", desc := "()V" } : Jvm.MethodName)) ∈ lw_tbl := zT_tb (List.mem_append_right tables_1_1 (List.mem_append_right tables_1_2 (List.mem_append_left tables_1_4 (List.mem_of_getElem? (i := 64) rfl))))
theorem q544 : (Jvm.Cond.methodLink "DigitChipModel" (1 : Nat) ({ cls := "java/lang/Object", name := "<init>", desc := "()V" } : Jvm.MethodName)) ∈ zT := zT_in b544 rfl
theorem b545 : (Jvm.Cond.constantLong "DigitChipModel" (40 : Nat) (10 : Int64)) ∈ lw_tbl := zT_tb (List.mem_append_right tables_1_1 (List.mem_append_right tables_1_2 (List.mem_append_left tables_1_4 (List.mem_of_getElem? (i := 65) rfl))))
theorem q545 : (Jvm.Cond.constantLong "DigitChipModel" (40 : Nat) (10 : Int64)) ∈ zT := zT_in b545 rfl
theorem b546 : (Jvm.Cond.fieldLink "DigitChipModel" (42 : Nat) "DigitChipModel" "code" "I") ∈ lw_tbl := zT_tb (List.mem_append_right tables_1_1 (List.mem_append_right tables_1_2 (List.mem_append_left tables_1_4 (List.mem_of_getElem? (i := 66) rfl))))
theorem q546 : (Jvm.Cond.fieldLink "DigitChipModel" (42 : Nat) "DigitChipModel" "code" "I") ∈ zT := zT_in b546 rfl
theorem b547 : (Jvm.Cond.fieldLink "DigitChipModel" (7 : Nat) "DigitChipModel" "powers" "[J") ∈ lw_tbl := zT_tb (List.mem_append_right tables_1_1 (List.mem_append_right tables_1_2 (List.mem_append_left tables_1_4 (List.mem_of_getElem? (i := 67) rfl))))
theorem q547 : (Jvm.Cond.fieldLink "DigitChipModel" (7 : Nat) "DigitChipModel" "powers" "[J") ∈ zT := zT_in b547 rfl
theorem b548 : (Jvm.Cond.fieldLink "DigitChipModel" (13 : Nat) "DigitChipModel" "registers" "[J") ∈ lw_tbl := zT_tb (List.mem_append_right tables_1_1 (List.mem_append_right tables_1_2 (List.mem_append_left tables_1_4 (List.mem_of_getElem? (i := 68) rfl))))
theorem q548 : (Jvm.Cond.fieldLink "DigitChipModel" (13 : Nat) "DigitChipModel" "registers" "[J") ∈ zT := zT_in b548 rfl
theorem b549 : (Jvm.Cond.fieldLink "DigitChipModel" (45 : Nat) "DigitChipModel" "pointer" "I") ∈ lw_tbl := zT_tb (List.mem_append_right tables_1_1 (List.mem_append_right tables_1_2 (List.mem_append_left tables_1_4 (List.mem_of_getElem? (i := 69) rfl))))
theorem q549 : (Jvm.Cond.fieldLink "DigitChipModel" (45 : Nat) "DigitChipModel" "pointer" "I") ∈ zT := zT_in b549 rfl
theorem b550 : (Jvm.Cond.fieldLink "DigitChipModel" (74 : Nat) "DigitChipModel" "status" "I") ∈ lw_tbl := zT_tb (List.mem_append_right tables_1_1 (List.mem_append_right tables_1_2 (List.mem_append_left tables_1_4 (List.mem_of_getElem? (i := 70) rfl))))
theorem q550 : (Jvm.Cond.fieldLink "DigitChipModel" (74 : Nat) "DigitChipModel" "status" "I") ∈ zT := zT_in b550 rfl
theorem b551 : (Jvm.Cond.fieldLink "DigitChipModel" (59 : Nat) "DigitChipModel" "carry" "Z") ∈ lw_tbl := zT_tb (List.mem_append_right tables_1_1 (List.mem_append_right tables_1_2 (List.mem_append_left tables_1_4 (List.mem_of_getElem? (i := 71) rfl))))
theorem q551 : (Jvm.Cond.fieldLink "DigitChipModel" (59 : Nat) "DigitChipModel" "carry" "Z") ∈ zT := zT_in b551 rfl
theorem b552 : (Jvm.Cond.fieldLink "DigitChipModel" (84 : Nat) "DigitChipModel" "place" "I") ∈ lw_tbl := zT_tb (List.mem_append_right tables_1_1 (List.mem_append_right tables_1_2 (List.mem_append_left tables_1_4 (List.mem_of_getElem? (i := 72) rfl))))
theorem q552 : (Jvm.Cond.fieldLink "DigitChipModel" (84 : Nat) "DigitChipModel" "place" "I") ∈ zT := zT_in b552 rfl
theorem b553 : (Jvm.Cond.fieldLink "DigitChipModel" (81 : Nat) "DigitChipModel" "back" "I") ∈ lw_tbl := zT_tb (List.mem_append_right tables_1_1 (List.mem_append_right tables_1_2 (List.mem_append_left tables_1_4 (List.mem_of_getElem? (i := 73) rfl))))
theorem q553 : (Jvm.Cond.fieldLink "DigitChipModel" (81 : Nat) "DigitChipModel" "back" "I") ∈ zT := zT_in b553 rfl
theorem b554 : (Jvm.Cond.fieldLink "DigitChipModel" (16 : Nat) "DigitChipModel" "words" "[I") ∈ lw_tbl := zT_tb (List.mem_append_right tables_1_1 (List.mem_append_right tables_1_2 (List.mem_append_left tables_1_4 (List.mem_of_getElem? (i := 74) rfl))))
theorem q554 : (Jvm.Cond.fieldLink "DigitChipModel" (16 : Nat) "DigitChipModel" "words" "[I") ∈ zT := zT_in b554 rfl
theorem b555 : (Jvm.Cond.fieldLink "DigitChipModel" (93 : Nat) "DigitChipModel" "keys" "I") ∈ lw_tbl := zT_tb (List.mem_append_right tables_1_1 (List.mem_append_right tables_1_2 (List.mem_append_left tables_1_4 (List.mem_of_getElem? (i := 75) rfl))))
theorem q555 : (Jvm.Cond.fieldLink "DigitChipModel" (93 : Nat) "DigitChipModel" "keys" "I") ∈ zT := zT_in b555 rfl
theorem b556 : (Jvm.Cond.fieldLink "DigitChipModel" (20 : Nat) "DigitChipModel" "pressed" "[I") ∈ lw_tbl := zT_tb (List.mem_append_right tables_1_1 (List.mem_append_right tables_1_2 (List.mem_append_left tables_1_4 (List.mem_of_getElem? (i := 76) rfl))))
theorem q556 : (Jvm.Cond.fieldLink "DigitChipModel" (20 : Nat) "DigitChipModel" "pressed" "[I") ∈ zT := zT_in b556 rfl
theorem b557 : (Jvm.Cond.fieldLink "DigitChipModel" (90 : Nat) "DigitChipModel" "ended" "Z") ∈ lw_tbl := zT_tb (List.mem_append_right tables_1_1 (List.mem_append_right tables_1_2 (List.mem_append_left tables_1_4 (List.mem_of_getElem? (i := 77) rfl))))
theorem q557 : (Jvm.Cond.fieldLink "DigitChipModel" (90 : Nat) "DigitChipModel" "ended" "Z") ∈ zT := zT_in b557 rfl
theorem b558 : (Jvm.Cond.fieldLink "DigitChipModel" (48 : Nat) "DigitChipModel" "low" "J") ∈ lw_tbl := zT_tb (List.mem_append_right tables_1_1 (List.mem_append_right tables_1_2 (List.mem_append_left tables_1_4 (List.mem_of_getElem? (i := 78) rfl))))
theorem q558 : (Jvm.Cond.fieldLink "DigitChipModel" (48 : Nat) "DigitChipModel" "low" "J") ∈ zT := zT_in b558 rfl
theorem b559 : (Jvm.Cond.fieldLink "DigitChipModel" (52 : Nat) "DigitChipModel" "wide" "J") ∈ lw_tbl := zT_tb (List.mem_append_right tables_1_1 (List.mem_append_right tables_1_2 (List.mem_append_left tables_1_4 (List.mem_of_getElem? (i := 79) rfl))))
theorem q559 : (Jvm.Cond.fieldLink "DigitChipModel" (52 : Nat) "DigitChipModel" "wide" "J") ∈ zT := zT_in b559 rfl
theorem b560 : (Jvm.Cond.fieldLink "DigitChipModel" (235 : Nat) "DigitChipModel" "size" "I") ∈ lw_tbl := zT_tb (List.mem_append_right tables_1_1 (List.mem_append_right tables_1_2 (List.mem_append_left tables_1_4 (List.mem_of_getElem? (i := 80) rfl))))
theorem q560 : (Jvm.Cond.fieldLink "DigitChipModel" (235 : Nat) "DigitChipModel" "size" "I") ∈ zT := zT_in b560 rfl
theorem b561 : (Jvm.Cond.fieldLink "DigitChipModel" (23 : Nat) "DigitChipModel" "text" "[C") ∈ lw_tbl := zT_tb (List.mem_append_right tables_1_1 (List.mem_append_right tables_1_2 (List.mem_append_left tables_1_4 (List.mem_of_getElem? (i := 81) rfl))))
theorem q561 : (Jvm.Cond.fieldLink "DigitChipModel" (23 : Nat) "DigitChipModel" "text" "[C") ∈ zT := zT_in b561 rfl
theorem b562 : (Jvm.Cond.fieldLink "DigitChipModel" (27 : Nat) "DigitChipModel" "illAt" "I") ∈ lw_tbl := zT_tb (List.mem_append_right tables_1_1 (List.mem_append_right tables_1_2 (List.mem_append_left tables_1_4 (List.mem_of_getElem? (i := 82) rfl))))
theorem q562 : (Jvm.Cond.fieldLink "DigitChipModel" (27 : Nat) "DigitChipModel" "illAt" "I") ∈ zT := zT_in b562 rfl
theorem b563 : (Jvm.Cond.fieldLink "DigitChipModel" (228 : Nat) "DigitChipModel" "count" "I") ∈ lw_tbl := zT_tb (List.mem_append_right tables_1_1 (List.mem_append_right tables_1_2 (List.mem_append_left tables_1_4 (List.mem_of_getElem? (i := 83) rfl))))
theorem q563 : (Jvm.Cond.fieldLink "DigitChipModel" (228 : Nat) "DigitChipModel" "count" "I") ∈ zT := zT_in b563 rfl
theorem b564 : (Jvm.Cond.fieldLink "DigitChipModel" (31 : Nat) "DigitChipModel" "made" "[I") ∈ lw_tbl := zT_tb (List.mem_append_right tables_1_1 (List.mem_append_right tables_1_2 (List.mem_append_left tables_1_4 (List.mem_of_getElem? (i := 84) rfl))))
theorem q564 : (Jvm.Cond.fieldLink "DigitChipModel" (31 : Nat) "DigitChipModel" "made" "[I") ∈ zT := zT_in b564 rfl
theorem b565 : (Jvm.Cond.fieldLink "DigitChipModel" (34 : Nat) "DigitChipModel" "labels" "[I") ∈ lw_tbl := zT_tb (List.mem_append_right tables_1_1 (List.mem_append_right tables_1_2 (List.mem_append_left tables_1_4 (List.mem_of_getElem? (i := 85) rfl))))
theorem q565 : (Jvm.Cond.fieldLink "DigitChipModel" (34 : Nat) "DigitChipModel" "labels" "[I") ∈ zT := zT_in b565 rfl
theorem b566 : (Jvm.Cond.fieldLink "DigitChipModel" (37 : Nat) "DigitChipModel" "wanted" "[I") ∈ lw_tbl := zT_tb (List.mem_append_right tables_1_1 (List.mem_append_right tables_1_2 (List.mem_append_left tables_1_4 (List.mem_of_getElem? (i := 86) rfl))))
theorem q566 : (Jvm.Cond.fieldLink "DigitChipModel" (37 : Nat) "DigitChipModel" "wanted" "[I") ∈ zT := zT_in b566 rfl
theorem b567 : (Jvm.Cond.lays "DigitChipModel" "DigitChipModel" "code" "I") ∈ lw_tbl := zT_tb (List.mem_append_right tables_1_1 (List.mem_append_right tables_1_2 (List.mem_append_left tables_1_4 (List.mem_of_getElem? (i := 87) rfl))))
theorem q567 : (Jvm.Cond.lays "DigitChipModel" "DigitChipModel" "code" "I") ∈ zT := zT_in b567 rfl
theorem b568 : (Jvm.Cond.soleField "DigitChipModel" "code") ∈ lw_tbl := zT_tb (List.mem_append_right tables_1_1 (List.mem_append_right tables_1_2 (List.mem_append_left tables_1_4 (List.mem_of_getElem? (i := 88) rfl))))
theorem b569 : (Jvm.Cond.laysFinal "DigitChipModel" "DigitChipModel" "powers" "[J") ∈ lw_tbl := zT_tb (List.mem_append_right tables_1_1 (List.mem_append_right tables_1_2 (List.mem_append_left tables_1_4 (List.mem_of_getElem? (i := 89) rfl))))
theorem q569 : (Jvm.Cond.laysFinal "DigitChipModel" "DigitChipModel" "powers" "[J") ∈ zT := zT_in b569 rfl
theorem b570 : (Jvm.Cond.soleField "DigitChipModel" "powers") ∈ lw_tbl := zT_tb (List.mem_append_right tables_1_1 (List.mem_append_right tables_1_2 (List.mem_append_left tables_1_4 (List.mem_of_getElem? (i := 90) rfl))))
theorem b571 : (Jvm.Cond.laysFinal "DigitChipModel" "DigitChipModel" "registers" "[J") ∈ lw_tbl := zT_tb (List.mem_append_right tables_1_1 (List.mem_append_right tables_1_2 (List.mem_append_left tables_1_4 (List.mem_of_getElem? (i := 91) rfl))))
theorem q571 : (Jvm.Cond.laysFinal "DigitChipModel" "DigitChipModel" "registers" "[J") ∈ zT := zT_in b571 rfl
theorem b572 : (Jvm.Cond.soleField "DigitChipModel" "registers") ∈ lw_tbl := zT_tb (List.mem_append_right tables_1_1 (List.mem_append_right tables_1_2 (List.mem_append_left tables_1_4 (List.mem_of_getElem? (i := 92) rfl))))
theorem b573 : (Jvm.Cond.lays "DigitChipModel" "DigitChipModel" "pointer" "I") ∈ lw_tbl := zT_tb (List.mem_append_right tables_1_1 (List.mem_append_right tables_1_2 (List.mem_append_left tables_1_4 (List.mem_of_getElem? (i := 93) rfl))))
theorem q573 : (Jvm.Cond.lays "DigitChipModel" "DigitChipModel" "pointer" "I") ∈ zT := zT_in b573 rfl
theorem b574 : (Jvm.Cond.soleField "DigitChipModel" "pointer") ∈ lw_tbl := zT_tb (List.mem_append_right tables_1_1 (List.mem_append_right tables_1_2 (List.mem_append_left tables_1_4 (List.mem_of_getElem? (i := 94) rfl))))
theorem b575 : (Jvm.Cond.lays "DigitChipModel" "DigitChipModel" "status" "I") ∈ lw_tbl := zT_tb (List.mem_append_right tables_1_1 (List.mem_append_right tables_1_2 (List.mem_append_left tables_1_4 (List.mem_of_getElem? (i := 95) rfl))))
theorem q575 : (Jvm.Cond.lays "DigitChipModel" "DigitChipModel" "status" "I") ∈ zT := zT_in b575 rfl
theorem b576 : (Jvm.Cond.soleField "DigitChipModel" "status") ∈ lw_tbl := zT_tb (List.mem_append_right tables_1_1 (List.mem_append_right tables_1_2 (List.mem_append_left tables_1_4 (List.mem_of_getElem? (i := 96) rfl))))
theorem b577 : (Jvm.Cond.lays "DigitChipModel" "DigitChipModel" "carry" "Z") ∈ lw_tbl := zT_tb (List.mem_append_right tables_1_1 (List.mem_append_right tables_1_2 (List.mem_append_left tables_1_4 (List.mem_of_getElem? (i := 97) rfl))))
theorem q577 : (Jvm.Cond.lays "DigitChipModel" "DigitChipModel" "carry" "Z") ∈ zT := zT_in b577 rfl
theorem b578 : (Jvm.Cond.soleField "DigitChipModel" "carry") ∈ lw_tbl := zT_tb (List.mem_append_right tables_1_1 (List.mem_append_right tables_1_2 (List.mem_append_left tables_1_4 (List.mem_of_getElem? (i := 98) rfl))))
theorem b579 : (Jvm.Cond.lays "DigitChipModel" "DigitChipModel" "place" "I") ∈ lw_tbl := zT_tb (List.mem_append_right tables_1_1 (List.mem_append_right tables_1_2 (List.mem_append_left tables_1_4 (List.mem_of_getElem? (i := 99) rfl))))
theorem q579 : (Jvm.Cond.lays "DigitChipModel" "DigitChipModel" "place" "I") ∈ zT := zT_in b579 rfl
theorem b580 : (Jvm.Cond.soleField "DigitChipModel" "place") ∈ lw_tbl := zT_tb (List.mem_append_right tables_1_1 (List.mem_append_right tables_1_2 (List.mem_append_left tables_1_4 (List.mem_of_getElem? (i := 100) rfl))))
theorem b581 : (Jvm.Cond.lays "DigitChipModel" "DigitChipModel" "back" "I") ∈ lw_tbl := zT_tb (List.mem_append_right tables_1_1 (List.mem_append_right tables_1_2 (List.mem_append_left tables_1_4 (List.mem_of_getElem? (i := 101) rfl))))
theorem q581 : (Jvm.Cond.lays "DigitChipModel" "DigitChipModel" "back" "I") ∈ zT := zT_in b581 rfl
theorem b582 : (Jvm.Cond.soleField "DigitChipModel" "back") ∈ lw_tbl := zT_tb (List.mem_append_right tables_1_1 (List.mem_append_right tables_1_2 (List.mem_append_left tables_1_4 (List.mem_of_getElem? (i := 102) rfl))))
theorem b583 : (Jvm.Cond.laysFinal "DigitChipModel" "DigitChipModel" "words" "[I") ∈ lw_tbl := zT_tb (List.mem_append_right tables_1_1 (List.mem_append_right tables_1_2 (List.mem_append_left tables_1_4 (List.mem_of_getElem? (i := 103) rfl))))
theorem q583 : (Jvm.Cond.laysFinal "DigitChipModel" "DigitChipModel" "words" "[I") ∈ zT := zT_in b583 rfl
theorem b584 : (Jvm.Cond.soleField "DigitChipModel" "words") ∈ lw_tbl := zT_tb (List.mem_append_right tables_1_1 (List.mem_append_right tables_1_2 (List.mem_append_left tables_1_4 (List.mem_of_getElem? (i := 104) rfl))))
theorem b585 : (Jvm.Cond.lays "DigitChipModel" "DigitChipModel" "keys" "I") ∈ lw_tbl := zT_tb (List.mem_append_right tables_1_1 (List.mem_append_right tables_1_2 (List.mem_append_left tables_1_4 (List.mem_of_getElem? (i := 105) rfl))))
theorem q585 : (Jvm.Cond.lays "DigitChipModel" "DigitChipModel" "keys" "I") ∈ zT := zT_in b585 rfl
theorem b586 : (Jvm.Cond.soleField "DigitChipModel" "keys") ∈ lw_tbl := zT_tb (List.mem_append_right tables_1_1 (List.mem_append_right tables_1_2 (List.mem_append_left tables_1_4 (List.mem_of_getElem? (i := 106) rfl))))
theorem b587 : (Jvm.Cond.laysFinal "DigitChipModel" "DigitChipModel" "pressed" "[I") ∈ lw_tbl := zT_tb (List.mem_append_right tables_1_1 (List.mem_append_right tables_1_2 (List.mem_append_left tables_1_4 (List.mem_of_getElem? (i := 107) rfl))))
theorem q587 : (Jvm.Cond.laysFinal "DigitChipModel" "DigitChipModel" "pressed" "[I") ∈ zT := zT_in b587 rfl
theorem b588 : (Jvm.Cond.soleField "DigitChipModel" "pressed") ∈ lw_tbl := zT_tb (List.mem_append_right tables_1_1 (List.mem_append_right tables_1_2 (List.mem_append_left tables_1_4 (List.mem_of_getElem? (i := 108) rfl))))
theorem b589 : (Jvm.Cond.lays "DigitChipModel" "DigitChipModel" "ended" "Z") ∈ lw_tbl := zT_tb (List.mem_append_right tables_1_1 (List.mem_append_right tables_1_2 (List.mem_append_left tables_1_4 (List.mem_of_getElem? (i := 109) rfl))))
theorem q589 : (Jvm.Cond.lays "DigitChipModel" "DigitChipModel" "ended" "Z") ∈ zT := zT_in b589 rfl
theorem b590 : (Jvm.Cond.soleField "DigitChipModel" "ended") ∈ lw_tbl := zT_tb (List.mem_append_right tables_1_1 (List.mem_append_right tables_1_2 (List.mem_append_left tables_1_4 (List.mem_of_getElem? (i := 110) rfl))))
theorem b591 : (Jvm.Cond.lays "DigitChipModel" "DigitChipModel" "low" "J") ∈ lw_tbl := zT_tb (List.mem_append_right tables_1_1 (List.mem_append_right tables_1_2 (List.mem_append_left tables_1_4 (List.mem_of_getElem? (i := 111) rfl))))
theorem q591 : (Jvm.Cond.lays "DigitChipModel" "DigitChipModel" "low" "J") ∈ zT := zT_in b591 rfl
theorem b592 : (Jvm.Cond.soleField "DigitChipModel" "low") ∈ lw_tbl := zT_tb (List.mem_append_right tables_1_1 (List.mem_append_right tables_1_2 (List.mem_append_left tables_1_4 (List.mem_of_getElem? (i := 112) rfl))))
theorem b593 : (Jvm.Cond.lays "DigitChipModel" "DigitChipModel" "wide" "J") ∈ lw_tbl := zT_tb (List.mem_append_right tables_1_1 (List.mem_append_right tables_1_2 (List.mem_append_left tables_1_4 (List.mem_of_getElem? (i := 113) rfl))))
theorem q593 : (Jvm.Cond.lays "DigitChipModel" "DigitChipModel" "wide" "J") ∈ zT := zT_in b593 rfl
theorem b594 : (Jvm.Cond.soleField "DigitChipModel" "wide") ∈ lw_tbl := zT_tb (List.mem_append_right tables_1_1 (List.mem_append_right tables_1_2 (List.mem_append_left tables_1_4 (List.mem_of_getElem? (i := 114) rfl))))
theorem b595 : (Jvm.Cond.lays "DigitChipModel" "DigitChipModel" "size" "I") ∈ lw_tbl := zT_tb (List.mem_append_right tables_1_1 (List.mem_append_right tables_1_2 (List.mem_append_left tables_1_4 (List.mem_of_getElem? (i := 115) rfl))))
theorem q595 : (Jvm.Cond.lays "DigitChipModel" "DigitChipModel" "size" "I") ∈ zT := zT_in b595 rfl
theorem b596 : (Jvm.Cond.soleField "DigitChipModel" "size") ∈ lw_tbl := zT_tb (List.mem_append_right tables_1_1 (List.mem_append_right tables_1_2 (List.mem_append_left tables_1_4 (List.mem_of_getElem? (i := 116) rfl))))
theorem b597 : (Jvm.Cond.laysFinal "DigitChipModel" "DigitChipModel" "text" "[C") ∈ lw_tbl := zT_tb (List.mem_append_right tables_1_1 (List.mem_append_right tables_1_2 (List.mem_append_left tables_1_4 (List.mem_of_getElem? (i := 117) rfl))))
theorem q597 : (Jvm.Cond.laysFinal "DigitChipModel" "DigitChipModel" "text" "[C") ∈ zT := zT_in b597 rfl
theorem b598 : (Jvm.Cond.soleField "DigitChipModel" "text") ∈ lw_tbl := zT_tb (List.mem_append_right tables_1_1 (List.mem_append_right tables_1_2 (List.mem_append_left tables_1_4 (List.mem_of_getElem? (i := 118) rfl))))
theorem b599 : (Jvm.Cond.lays "DigitChipModel" "DigitChipModel" "illAt" "I") ∈ lw_tbl := zT_tb (List.mem_append_right tables_1_1 (List.mem_append_right tables_1_2 (List.mem_append_left tables_1_4 (List.mem_of_getElem? (i := 119) rfl))))
theorem q599 : (Jvm.Cond.lays "DigitChipModel" "DigitChipModel" "illAt" "I") ∈ zT := zT_in b599 rfl
theorem b600 : (Jvm.Cond.soleField "DigitChipModel" "illAt") ∈ lw_tbl := zT_tb (List.mem_append_right tables_1_1 (List.mem_append_right tables_1_2 (List.mem_append_left tables_1_4 (List.mem_of_getElem? (i := 120) rfl))))
theorem b601 : (Jvm.Cond.lays "DigitChipModel" "DigitChipModel" "count" "I") ∈ lw_tbl := zT_tb (List.mem_append_right tables_1_1 (List.mem_append_right tables_1_2 (List.mem_append_left tables_1_4 (List.mem_of_getElem? (i := 121) rfl))))
theorem q601 : (Jvm.Cond.lays "DigitChipModel" "DigitChipModel" "count" "I") ∈ zT := zT_in b601 rfl
theorem b602 : (Jvm.Cond.soleField "DigitChipModel" "count") ∈ lw_tbl := zT_tb (List.mem_append_right tables_1_1 (List.mem_append_right tables_1_2 (List.mem_append_left tables_1_4 (List.mem_of_getElem? (i := 122) rfl))))
theorem b603 : (Jvm.Cond.laysFinal "DigitChipModel" "DigitChipModel" "made" "[I") ∈ lw_tbl := zT_tb (List.mem_append_right tables_1_1 (List.mem_append_right tables_1_2 (List.mem_append_left tables_1_4 (List.mem_of_getElem? (i := 123) rfl))))
theorem q603 : (Jvm.Cond.laysFinal "DigitChipModel" "DigitChipModel" "made" "[I") ∈ zT := zT_in b603 rfl
theorem b604 : (Jvm.Cond.soleField "DigitChipModel" "made") ∈ lw_tbl := zT_tb (List.mem_append_right tables_1_1 (List.mem_append_right tables_1_2 (List.mem_append_left tables_1_4 (List.mem_of_getElem? (i := 124) rfl))))
theorem b605 : (Jvm.Cond.laysFinal "DigitChipModel" "DigitChipModel" "labels" "[I") ∈ lw_tbl := zT_tb (List.mem_append_right tables_1_1 (List.mem_append_right tables_1_2 (List.mem_append_left tables_1_4 (List.mem_of_getElem? (i := 125) rfl))))
theorem q605 : (Jvm.Cond.laysFinal "DigitChipModel" "DigitChipModel" "labels" "[I") ∈ zT := zT_in b605 rfl
theorem b606 : (Jvm.Cond.soleField "DigitChipModel" "labels") ∈ lw_tbl := zT_tb (List.mem_append_right tables_1_1 (List.mem_append_right tables_1_2 (List.mem_append_left tables_1_4 (List.mem_of_getElem? (i := 126) rfl))))
theorem b607 : (Jvm.Cond.laysFinal "DigitChipModel" "DigitChipModel" "wanted" "[I") ∈ lw_tbl := zT_tb (List.mem_append_right tables_1_1 (List.mem_append_right tables_1_2 (List.mem_append_left tables_1_4 (List.mem_of_getElem? (i := 127) rfl))))
theorem q607 : (Jvm.Cond.laysFinal "DigitChipModel" "DigitChipModel" "wanted" "[I") ∈ zT := zT_in b607 rfl
theorem b608 : (Jvm.Cond.soleField "DigitChipModel" "wanted") ∈ lw_tbl := zT_tb (List.mem_append_right tables_1_1 (List.mem_append_right tables_1_2 (List.mem_append_left tables_1_4 (List.mem_of_getElem? (i := 128) rfl))))
theorem b609 : (Jvm.Cond.superclass "DigitChipModel" "java/lang/Object") ∈ lw_tbl := zT_tb (List.mem_append_right tables_1_1 (List.mem_append_right tables_1_2 (List.mem_append_left tables_1_4 (List.mem_of_getElem? (i := 129) rfl))))
theorem b610 : (Jvm.Cond.methodLink "DigitChipLaw" (34 : Nat) ({ cls := "DigitChipModel", name := "thrown", desc := "()I" } : Jvm.MethodName)) ∈ lw_tbl := zT_tb (List.mem_append_right tables_1_1 (List.mem_append_right tables_1_2 (List.mem_append_left tables_1_4 (List.mem_of_getElem? (i := 130) rfl))))
theorem q610 : (Jvm.Cond.methodLink "DigitChipLaw" (34 : Nat) ({ cls := "DigitChipModel", name := "thrown", desc := "()I" } : Jvm.MethodName)) ∈ zT := zT_in b610 rfl
theorem b611 : (Jvm.Cond.instanceMethod ({ cls := "DigitChipModel", name := "thrown", desc := "()I" } : Jvm.MethodName)) ∈ lw_tbl := zT_tb (List.mem_append_right tables_1_1 (List.mem_append_right tables_1_2 (List.mem_append_left tables_1_4 (List.mem_of_getElem? (i := 131) rfl))))
theorem q611 : (Jvm.Cond.instanceMethod ({ cls := "DigitChipModel", name := "thrown", desc := "()I" } : Jvm.MethodName)) ∈ zT := zT_in b611 rfl
theorem b612 : (Jvm.Cond.selects "DigitChipModel" ({ cls := "DigitChipModel", name := "thrown", desc := "()I" } : Jvm.MethodName) ({ cls := "DigitChipModel", name := "thrown", desc := "()I" } : Jvm.MethodName)) ∈ lw_tbl := zT_tb (List.mem_append_right tables_1_1 (List.mem_append_right tables_1_2 (List.mem_append_left tables_1_4 (List.mem_of_getElem? (i := 132) rfl))))
theorem q612 : (Jvm.Cond.selects "DigitChipModel" ({ cls := "DigitChipModel", name := "thrown", desc := "()I" } : Jvm.MethodName) ({ cls := "DigitChipModel", name := "thrown", desc := "()I" } : Jvm.MethodName)) ∈ zT := zT_in b612 rfl
theorem b613 : (Jvm.Cond.code ({ cls := "DigitChipModel", name := "thrown", desc := "()I" } : Jvm.MethodName) prog_7_method_2_code (1 : Nat) (Option.some Jvm.ClassFile.FieldType.int)) ∈ lw_tbl := zT_tb (List.mem_append_right tables_1_1 (List.mem_append_right tables_1_2 (List.mem_append_left tables_1_4 (List.mem_of_getElem? (i := 133) rfl))))
theorem q613 : (Jvm.Cond.code ({ cls := "DigitChipModel", name := "thrown", desc := "()I" } : Jvm.MethodName) prog_7_method_2_code (1 : Nat) (Option.some Jvm.ClassFile.FieldType.int)) ∈ zT := zT_in b613 rfl
theorem b614 : (Jvm.Cond.methodLink "DigitChipLaw" (62 : Nat) ({ cls := "DigitChipModel", name := "run", desc := "(I)I" } : Jvm.MethodName)) ∈ lw_tbl := zT_tb (List.mem_append_right tables_1_1 (List.mem_append_right tables_1_2 (List.mem_append_left tables_1_4 (List.mem_of_getElem? (i := 134) rfl))))
theorem q614 : (Jvm.Cond.methodLink "DigitChipLaw" (62 : Nat) ({ cls := "DigitChipModel", name := "run", desc := "(I)I" } : Jvm.MethodName)) ∈ zT := zT_in b614 rfl
theorem b615 : (Jvm.Cond.instanceMethod ({ cls := "DigitChipModel", name := "run", desc := "(I)I" } : Jvm.MethodName)) ∈ lw_tbl := zT_tb (List.mem_append_right tables_1_1 (List.mem_append_right tables_1_2 (List.mem_append_left tables_1_4 (List.mem_of_getElem? (i := 135) rfl))))
theorem q615 : (Jvm.Cond.instanceMethod ({ cls := "DigitChipModel", name := "run", desc := "(I)I" } : Jvm.MethodName)) ∈ zT := zT_in b615 rfl
theorem b616 : (Jvm.Cond.selects "DigitChipModel" ({ cls := "DigitChipModel", name := "run", desc := "(I)I" } : Jvm.MethodName) ({ cls := "DigitChipModel", name := "run", desc := "(I)I" } : Jvm.MethodName)) ∈ lw_tbl := zT_tb (List.mem_append_right tables_1_1 (List.mem_append_right tables_1_2 (List.mem_append_left tables_1_4 (List.mem_of_getElem? (i := 136) rfl))))
theorem q616 : (Jvm.Cond.selects "DigitChipModel" ({ cls := "DigitChipModel", name := "run", desc := "(I)I" } : Jvm.MethodName) ({ cls := "DigitChipModel", name := "run", desc := "(I)I" } : Jvm.MethodName)) ∈ zT := zT_in b616 rfl
theorem b617 : (Jvm.Cond.code ({ cls := "DigitChipModel", name := "run", desc := "(I)I" } : Jvm.MethodName) prog_7_method_14_code (3 : Nat) (Option.some Jvm.ClassFile.FieldType.int)) ∈ lw_tbl := zT_tb (List.mem_append_right tables_1_1 (List.mem_append_right tables_1_2 (List.mem_append_left tables_1_4 (List.mem_of_getElem? (i := 137) rfl))))
theorem q617 : (Jvm.Cond.code ({ cls := "DigitChipModel", name := "run", desc := "(I)I" } : Jvm.MethodName) prog_7_method_14_code (3 : Nat) (Option.some Jvm.ClassFile.FieldType.int)) ∈ zT := zT_in b617 rfl
theorem b618 : (Jvm.Cond.methodLink "DigitChipModel" (108 : Nat) ({ cls := "DigitChipModel", name := "step", desc := "()V" } : Jvm.MethodName)) ∈ lw_tbl := zT_tb (List.mem_append_right tables_1_1 (List.mem_append_right tables_1_2 (List.mem_append_left tables_1_4 (List.mem_of_getElem? (i := 138) rfl))))
theorem q618 : (Jvm.Cond.methodLink "DigitChipModel" (108 : Nat) ({ cls := "DigitChipModel", name := "step", desc := "()V" } : Jvm.MethodName)) ∈ zT := zT_in b618 rfl
theorem b619 : (Jvm.Cond.privateMethod ({ cls := "DigitChipModel", name := "step", desc := "()V" } : Jvm.MethodName)) ∈ lw_tbl := zT_tb (List.mem_append_right tables_1_1 (List.mem_append_right tables_1_2 (List.mem_append_left tables_1_4 (List.mem_of_getElem? (i := 139) rfl))))
theorem b620 : (Jvm.Cond.instanceMethod ({ cls := "DigitChipModel", name := "step", desc := "()V" } : Jvm.MethodName)) ∈ lw_tbl := zT_tb (List.mem_append_right tables_1_1 (List.mem_append_right tables_1_2 (List.mem_append_left tables_1_4 (List.mem_of_getElem? (i := 140) rfl))))
theorem q620 : (Jvm.Cond.instanceMethod ({ cls := "DigitChipModel", name := "step", desc := "()V" } : Jvm.MethodName)) ∈ zT := zT_in b620 rfl
theorem b621 : (Jvm.Cond.code ({ cls := "DigitChipModel", name := "step", desc := "()V" } : Jvm.MethodName) prog_7_method_13_code (7 : Nat) (Option.none : Option Jvm.ClassFile.FieldType)) ∈ lw_tbl := zT_tb (List.mem_append_right tables_1_1 (List.mem_append_right tables_1_2 (List.mem_append_left tables_1_4 (List.mem_of_getElem? (i := 141) rfl))))
theorem q621 : (Jvm.Cond.code ({ cls := "DigitChipModel", name := "step", desc := "()V" } : Jvm.MethodName) prog_7_method_13_code (7 : Nat) (Option.none : Option Jvm.ClassFile.FieldType)) ∈ zT := zT_in b621 rfl
theorem b622 : (Jvm.Cond.methodLink "DigitChipModel" (77 : Nat) ({ cls := "DigitChipModel", name := "field", desc := "(I)V" } : Jvm.MethodName)) ∈ lw_tbl := zT_tb (List.mem_append_right tables_1_1 (List.mem_append_right tables_1_2 (List.mem_append_left tables_1_4 (List.mem_of_getElem? (i := 142) rfl))))
theorem q622 : (Jvm.Cond.methodLink "DigitChipModel" (77 : Nat) ({ cls := "DigitChipModel", name := "field", desc := "(I)V" } : Jvm.MethodName)) ∈ zT := zT_in b622 rfl
theorem b623 : (Jvm.Cond.privateMethod ({ cls := "DigitChipModel", name := "field", desc := "(I)V" } : Jvm.MethodName)) ∈ lw_tbl := zT_tb (List.mem_append_right tables_1_1 (List.mem_append_right tables_1_2 (List.mem_append_left tables_1_4 (List.mem_of_getElem? (i := 143) rfl))))
theorem b624 : (Jvm.Cond.instanceMethod ({ cls := "DigitChipModel", name := "field", desc := "(I)V" } : Jvm.MethodName)) ∈ lw_tbl := zT_tb (List.mem_append_right tables_1_1 (List.mem_append_right tables_1_2 (List.mem_append_left tables_1_4 (List.mem_of_getElem? (i := 144) rfl))))
theorem q624 : (Jvm.Cond.instanceMethod ({ cls := "DigitChipModel", name := "field", desc := "(I)V" } : Jvm.MethodName)) ∈ zT := zT_in b624 rfl
theorem b625 : (Jvm.Cond.code ({ cls := "DigitChipModel", name := "field", desc := "(I)V" } : Jvm.MethodName) prog_7_method_3_code (4 : Nat) (Option.none : Option Jvm.ClassFile.FieldType)) ∈ lw_tbl := zT_tb (List.mem_append_right tables_1_1 (List.mem_append_right tables_1_2 (List.mem_append_left tables_1_4 (List.mem_of_getElem? (i := 145) rfl))))
theorem q625 : (Jvm.Cond.code ({ cls := "DigitChipModel", name := "field", desc := "(I)V" } : Jvm.MethodName) prog_7_method_3_code (4 : Nat) (Option.none : Option Jvm.ClassFile.FieldType)) ∈ zT := zT_in b625 rfl
theorem b626 : (Jvm.Cond.methodLink "DigitChipModel" (96 : Nat) ({ cls := "DigitChipModel", name := "move", desc := "(I)V" } : Jvm.MethodName)) ∈ lw_tbl := zT_tb (List.mem_append_right tables_1_1 (List.mem_append_right tables_1_2 (List.mem_append_left tables_1_4 (List.mem_of_getElem? (i := 146) rfl))))
theorem q626 : (Jvm.Cond.methodLink "DigitChipModel" (96 : Nat) ({ cls := "DigitChipModel", name := "move", desc := "(I)V" } : Jvm.MethodName)) ∈ zT := zT_in b626 rfl
theorem b627 : (Jvm.Cond.privateMethod ({ cls := "DigitChipModel", name := "move", desc := "(I)V" } : Jvm.MethodName)) ∈ lw_tbl := zT_tb (List.mem_append_right tables_1_1 (List.mem_append_right tables_1_2 (List.mem_append_left tables_1_4 (List.mem_of_getElem? (i := 147) rfl))))
theorem b628 : (Jvm.Cond.instanceMethod ({ cls := "DigitChipModel", name := "move", desc := "(I)V" } : Jvm.MethodName)) ∈ lw_tbl := zT_tb (List.mem_append_right tables_1_1 (List.mem_append_right tables_1_2 (List.mem_append_left tables_1_4 (List.mem_of_getElem? (i := 148) rfl))))
theorem q628 : (Jvm.Cond.instanceMethod ({ cls := "DigitChipModel", name := "move", desc := "(I)V" } : Jvm.MethodName)) ∈ zT := zT_in b628 rfl
theorem b629 : (Jvm.Cond.code ({ cls := "DigitChipModel", name := "move", desc := "(I)V" } : Jvm.MethodName) prog_7_method_8_code (2 : Nat) (Option.none : Option Jvm.ClassFile.FieldType)) ∈ lw_tbl := zT_tb (List.mem_append_right tables_1_1 (List.mem_append_right tables_1_2 (List.mem_append_left tables_1_4 (List.mem_of_getElem? (i := 149) rfl))))
theorem q629 : (Jvm.Cond.code ({ cls := "DigitChipModel", name := "move", desc := "(I)V" } : Jvm.MethodName) prog_7_method_8_code (2 : Nat) (Option.none : Option Jvm.ClassFile.FieldType)) ∈ zT := zT_in b629 rfl
theorem b630 : (Jvm.Cond.methodLink "DigitChipModel" (63 : Nat) ({ cls := "DigitChipModel", name := "write", desc := "(IJ)V" } : Jvm.MethodName)) ∈ lw_tbl := zT_tb (List.mem_append_right tables_1_1 (List.mem_append_right tables_1_2 (List.mem_append_left tables_1_4 (List.mem_of_getElem? (i := 150) rfl))))
theorem q630 : (Jvm.Cond.methodLink "DigitChipModel" (63 : Nat) ({ cls := "DigitChipModel", name := "write", desc := "(IJ)V" } : Jvm.MethodName)) ∈ zT := zT_in b630 rfl
theorem b631 : (Jvm.Cond.privateMethod ({ cls := "DigitChipModel", name := "write", desc := "(IJ)V" } : Jvm.MethodName)) ∈ lw_tbl := zT_tb (List.mem_append_right tables_1_1 (List.mem_append_right tables_1_2 (List.mem_append_left tables_1_4 (List.mem_of_getElem? (i := 151) rfl))))
theorem b632 : (Jvm.Cond.instanceMethod ({ cls := "DigitChipModel", name := "write", desc := "(IJ)V" } : Jvm.MethodName)) ∈ lw_tbl := zT_tb (List.mem_append_right tables_1_1 (List.mem_append_right tables_1_2 (List.mem_append_left tables_1_4 (List.mem_of_getElem? (i := 152) rfl))))
theorem q632 : (Jvm.Cond.instanceMethod ({ cls := "DigitChipModel", name := "write", desc := "(IJ)V" } : Jvm.MethodName)) ∈ zT := zT_in b632 rfl
theorem b633 : (Jvm.Cond.code ({ cls := "DigitChipModel", name := "write", desc := "(IJ)V" } : Jvm.MethodName) prog_7_method_5_code (4 : Nat) (Option.none : Option Jvm.ClassFile.FieldType)) ∈ lw_tbl := zT_tb (List.mem_append_right tables_1_1 (List.mem_append_right tables_1_2 (List.mem_append_left tables_1_4 (List.mem_of_getElem? (i := 153) rfl))))
theorem q633 : (Jvm.Cond.code ({ cls := "DigitChipModel", name := "write", desc := "(IJ)V" } : Jvm.MethodName) prog_7_method_5_code (4 : Nat) (Option.none : Option Jvm.ClassFile.FieldType)) ∈ zT := zT_in b633 rfl
theorem b634 : (Jvm.Cond.methodLink "DigitChipModel" (55 : Nat) ({ cls := "DigitChipModel", name := "part", desc := "(I)J" } : Jvm.MethodName)) ∈ lw_tbl := zT_tb (List.mem_append_right tables_1_1 (List.mem_append_right tables_1_2 (List.mem_append_left tables_1_4 (List.mem_of_getElem? (i := 154) rfl))))
theorem q634 : (Jvm.Cond.methodLink "DigitChipModel" (55 : Nat) ({ cls := "DigitChipModel", name := "part", desc := "(I)J" } : Jvm.MethodName)) ∈ zT := zT_in b634 rfl
theorem b635 : (Jvm.Cond.privateMethod ({ cls := "DigitChipModel", name := "part", desc := "(I)J" } : Jvm.MethodName)) ∈ lw_tbl := zT_tb (List.mem_append_right tables_1_1 (List.mem_append_right tables_1_2 (List.mem_append_left tables_1_4 (List.mem_of_getElem? (i := 155) rfl))))
theorem b636 : (Jvm.Cond.instanceMethod ({ cls := "DigitChipModel", name := "part", desc := "(I)J" } : Jvm.MethodName)) ∈ lw_tbl := zT_tb (List.mem_append_right tables_1_1 (List.mem_append_right tables_1_2 (List.mem_append_left tables_1_4 (List.mem_of_getElem? (i := 156) rfl))))
theorem q636 : (Jvm.Cond.instanceMethod ({ cls := "DigitChipModel", name := "part", desc := "(I)J" } : Jvm.MethodName)) ∈ zT := zT_in b636 rfl
theorem b637 : (Jvm.Cond.code ({ cls := "DigitChipModel", name := "part", desc := "(I)J" } : Jvm.MethodName) prog_7_method_4_code (2 : Nat) (Option.some Jvm.ClassFile.FieldType.long)) ∈ lw_tbl := zT_tb (List.mem_append_right tables_1_1 (List.mem_append_right tables_1_2 (List.mem_append_left tables_1_4 (List.mem_of_getElem? (i := 157) rfl))))
theorem q637 : (Jvm.Cond.code ({ cls := "DigitChipModel", name := "part", desc := "(I)J" } : Jvm.MethodName) prog_7_method_4_code (2 : Nat) (Option.some Jvm.ClassFile.FieldType.long)) ∈ zT := zT_in b637 rfl
theorem b638 : (Jvm.Cond.methodLink "DigitChipModel" (67 : Nat) ({ cls := "DigitChipModel", name := "change", desc := "(II)V" } : Jvm.MethodName)) ∈ lw_tbl := zT_tb (List.mem_append_right tables_1_1 (List.mem_append_right tables_1_2 (List.mem_append_left tables_1_4 (List.mem_of_getElem? (i := 158) rfl))))
theorem q638 : (Jvm.Cond.methodLink "DigitChipModel" (67 : Nat) ({ cls := "DigitChipModel", name := "change", desc := "(II)V" } : Jvm.MethodName)) ∈ zT := zT_in b638 rfl
theorem b639 : (Jvm.Cond.privateMethod ({ cls := "DigitChipModel", name := "change", desc := "(II)V" } : Jvm.MethodName)) ∈ lw_tbl := zT_tb (List.mem_append_right tables_1_1 (List.mem_append_right tables_1_2 (List.mem_append_left tables_1_4 (List.mem_of_getElem? (i := 159) rfl))))
theorem b640 : (Jvm.Cond.instanceMethod ({ cls := "DigitChipModel", name := "change", desc := "(II)V" } : Jvm.MethodName)) ∈ lw_tbl := zT_tb (List.mem_append_right tables_1_1 (List.mem_append_right tables_1_2 (List.mem_append_left tables_1_4 (List.mem_of_getElem? (i := 160) rfl))))
theorem q640 : (Jvm.Cond.instanceMethod ({ cls := "DigitChipModel", name := "change", desc := "(II)V" } : Jvm.MethodName)) ∈ zT := zT_in b640 rfl
theorem b641 : (Jvm.Cond.code ({ cls := "DigitChipModel", name := "change", desc := "(II)V" } : Jvm.MethodName) prog_7_method_7_code (5 : Nat) (Option.none : Option Jvm.ClassFile.FieldType)) ∈ lw_tbl := zT_tb (List.mem_append_right tables_1_1 (List.mem_append_right tables_1_2 (List.mem_append_left tables_1_4 (List.mem_of_getElem? (i := 161) rfl))))
theorem q641 : (Jvm.Cond.code ({ cls := "DigitChipModel", name := "change", desc := "(II)V" } : Jvm.MethodName) prog_7_method_7_code (5 : Nat) (Option.none : Option Jvm.ClassFile.FieldType)) ∈ zT := zT_in b641 rfl
theorem b642 : (Jvm.Cond.methodLink "DigitChipModel" (99 : Nat) ({ cls := "DigitChipModel", name := "reckon", desc := "(I)V" } : Jvm.MethodName)) ∈ lw_tbl := zT_tb (List.mem_append_right tables_1_1 (List.mem_append_right tables_1_2 (List.mem_append_left tables_1_4 (List.mem_of_getElem? (i := 162) rfl))))
theorem q642 : (Jvm.Cond.methodLink "DigitChipModel" (99 : Nat) ({ cls := "DigitChipModel", name := "reckon", desc := "(I)V" } : Jvm.MethodName)) ∈ zT := zT_in b642 rfl
theorem b643 : (Jvm.Cond.privateMethod ({ cls := "DigitChipModel", name := "reckon", desc := "(I)V" } : Jvm.MethodName)) ∈ lw_tbl := zT_tb (List.mem_append_right tables_1_1 (List.mem_append_right tables_1_2 (List.mem_append_left tables_1_4 (List.mem_of_getElem? (i := 163) rfl))))
theorem b644 : (Jvm.Cond.instanceMethod ({ cls := "DigitChipModel", name := "reckon", desc := "(I)V" } : Jvm.MethodName)) ∈ lw_tbl := zT_tb (List.mem_append_right tables_1_1 (List.mem_append_right tables_1_2 (List.mem_append_left tables_1_4 (List.mem_of_getElem? (i := 164) rfl))))
theorem q644 : (Jvm.Cond.instanceMethod ({ cls := "DigitChipModel", name := "reckon", desc := "(I)V" } : Jvm.MethodName)) ∈ zT := zT_in b644 rfl
theorem b645 : (Jvm.Cond.code ({ cls := "DigitChipModel", name := "reckon", desc := "(I)V" } : Jvm.MethodName) prog_7_method_9_code (8 : Nat) (Option.none : Option Jvm.ClassFile.FieldType)) ∈ lw_tbl := zT_tb (List.mem_append_right tables_1_1 (List.mem_append_right tables_1_2 (List.mem_append_left tables_1_4 (List.mem_of_getElem? (i := 165) rfl))))
theorem q645 : (Jvm.Cond.code ({ cls := "DigitChipModel", name := "reckon", desc := "(I)V" } : Jvm.MethodName) prog_7_method_9_code (8 : Nat) (Option.none : Option Jvm.ClassFile.FieldType)) ∈ zT := zT_in b645 rfl
theorem b646 : (Jvm.Cond.methodLink "DigitChipModel" (71 : Nat) ({ cls := "DigitChipModel", name := "become", desc := "(IJ)V" } : Jvm.MethodName)) ∈ lw_tbl := zT_tb (List.mem_append_right tables_1_1 (List.mem_append_right tables_1_2 (List.mem_append_left tables_1_4 (List.mem_of_getElem? (i := 166) rfl))))
theorem q646 : (Jvm.Cond.methodLink "DigitChipModel" (71 : Nat) ({ cls := "DigitChipModel", name := "become", desc := "(IJ)V" } : Jvm.MethodName)) ∈ zT := zT_in b646 rfl
theorem b647 : (Jvm.Cond.privateMethod ({ cls := "DigitChipModel", name := "become", desc := "(IJ)V" } : Jvm.MethodName)) ∈ lw_tbl := zT_tb (List.mem_append_right tables_1_1 (List.mem_append_right tables_1_2 (List.mem_append_left tables_1_4 (List.mem_of_getElem? (i := 167) rfl))))
theorem b648 : (Jvm.Cond.instanceMethod ({ cls := "DigitChipModel", name := "become", desc := "(IJ)V" } : Jvm.MethodName)) ∈ lw_tbl := zT_tb (List.mem_append_right tables_1_1 (List.mem_append_right tables_1_2 (List.mem_append_left tables_1_4 (List.mem_of_getElem? (i := 168) rfl))))
theorem q648 : (Jvm.Cond.instanceMethod ({ cls := "DigitChipModel", name := "become", desc := "(IJ)V" } : Jvm.MethodName)) ∈ zT := zT_in b648 rfl
theorem b649 : (Jvm.Cond.code ({ cls := "DigitChipModel", name := "become", desc := "(IJ)V" } : Jvm.MethodName) prog_7_method_6_code (4 : Nat) (Option.none : Option Jvm.ClassFile.FieldType)) ∈ lw_tbl := zT_tb (List.mem_append_right tables_1_1 (List.mem_append_right tables_1_2 (List.mem_append_left tables_1_4 (List.mem_of_getElem? (i := 169) rfl))))
theorem q649 : (Jvm.Cond.code ({ cls := "DigitChipModel", name := "become", desc := "(IJ)V" } : Jvm.MethodName) prog_7_method_6_code (4 : Nat) (Option.none : Option Jvm.ClassFile.FieldType)) ∈ zT := zT_in b649 rfl
theorem b650 : (Jvm.Cond.methodLink "DigitChipModel" (102 : Nat) ({ cls := "DigitChipModel", name := "mark", desc := "(II)V" } : Jvm.MethodName)) ∈ lw_tbl := zT_tb (List.mem_append_right tables_1_1 (List.mem_append_right tables_1_2 (List.mem_append_left tables_1_4 (List.mem_of_getElem? (i := 170) rfl))))
theorem q650 : (Jvm.Cond.methodLink "DigitChipModel" (102 : Nat) ({ cls := "DigitChipModel", name := "mark", desc := "(II)V" } : Jvm.MethodName)) ∈ zT := zT_in b650 rfl
theorem b651 : (Jvm.Cond.privateMethod ({ cls := "DigitChipModel", name := "mark", desc := "(II)V" } : Jvm.MethodName)) ∈ lw_tbl := zT_tb (List.mem_append_right tables_1_1 (List.mem_append_right tables_1_2 (List.mem_append_left tables_1_4 (List.mem_of_getElem? (i := 171) rfl))))
theorem b652 : (Jvm.Cond.instanceMethod ({ cls := "DigitChipModel", name := "mark", desc := "(II)V" } : Jvm.MethodName)) ∈ lw_tbl := zT_tb (List.mem_append_right tables_1_1 (List.mem_append_right tables_1_2 (List.mem_append_left tables_1_4 (List.mem_of_getElem? (i := 172) rfl))))
theorem q652 : (Jvm.Cond.instanceMethod ({ cls := "DigitChipModel", name := "mark", desc := "(II)V" } : Jvm.MethodName)) ∈ zT := zT_in b652 rfl
theorem b653 : (Jvm.Cond.code ({ cls := "DigitChipModel", name := "mark", desc := "(II)V" } : Jvm.MethodName) prog_7_method_10_code (3 : Nat) (Option.none : Option Jvm.ClassFile.FieldType)) ∈ lw_tbl := zT_tb (List.mem_append_right tables_1_1 (List.mem_append_right tables_1_2 (List.mem_append_left tables_1_4 (List.mem_of_getElem? (i := 173) rfl))))
theorem q653 : (Jvm.Cond.code ({ cls := "DigitChipModel", name := "mark", desc := "(II)V" } : Jvm.MethodName) prog_7_method_10_code (3 : Nat) (Option.none : Option Jvm.ClassFile.FieldType)) ∈ zT := zT_in b653 rfl
theorem b654 : (Jvm.Cond.methodLink "DigitChipModel" (105 : Nat) ({ cls := "DigitChipModel", name := "turn", desc := "(II)V" } : Jvm.MethodName)) ∈ lw_tbl := zT_tb (List.mem_append_right tables_1_1 (List.mem_append_right tables_1_2 (List.mem_append_left tables_1_4 (List.mem_of_getElem? (i := 174) rfl))))
theorem q654 : (Jvm.Cond.methodLink "DigitChipModel" (105 : Nat) ({ cls := "DigitChipModel", name := "turn", desc := "(II)V" } : Jvm.MethodName)) ∈ zT := zT_in b654 rfl
theorem b655 : (Jvm.Cond.privateMethod ({ cls := "DigitChipModel", name := "turn", desc := "(II)V" } : Jvm.MethodName)) ∈ lw_tbl := zT_tb (List.mem_append_right tables_1_1 (List.mem_append_right tables_1_2 (List.mem_append_left tables_1_4 (List.mem_of_getElem? (i := 175) rfl))))
theorem b656 : (Jvm.Cond.instanceMethod ({ cls := "DigitChipModel", name := "turn", desc := "(II)V" } : Jvm.MethodName)) ∈ lw_tbl := zT_tb (List.mem_append_right tables_1_1 (List.mem_append_right tables_1_2 (List.mem_append_left tables_1_4 (List.mem_of_getElem? (i := 176) rfl))))
theorem q656 : (Jvm.Cond.instanceMethod ({ cls := "DigitChipModel", name := "turn", desc := "(II)V" } : Jvm.MethodName)) ∈ zT := zT_in b656 rfl
theorem b657 : (Jvm.Cond.code ({ cls := "DigitChipModel", name := "turn", desc := "(II)V" } : Jvm.MethodName) prog_7_method_11_code (5 : Nat) (Option.none : Option Jvm.ClassFile.FieldType)) ∈ lw_tbl := zT_tb (List.mem_append_right tables_1_1 (List.mem_append_right tables_1_2 (List.mem_append_left tables_1_4 (List.mem_of_getElem? (i := 177) rfl))))
theorem q657 : (Jvm.Cond.code ({ cls := "DigitChipModel", name := "turn", desc := "(II)V" } : Jvm.MethodName) prog_7_method_11_code (5 : Nat) (Option.none : Option Jvm.ClassFile.FieldType)) ∈ zT := zT_in b657 rfl
theorem b658 : (Jvm.Cond.methodLink "DigitChipModel" (87 : Nat) ({ cls := "DigitChipModel", name := "pick", desc := "(I)V" } : Jvm.MethodName)) ∈ lw_tbl := zT_tb (List.mem_append_right tables_1_1 (List.mem_append_right tables_1_2 (List.mem_append_left tables_1_4 (List.mem_of_getElem? (i := 178) rfl))))
theorem q658 : (Jvm.Cond.methodLink "DigitChipModel" (87 : Nat) ({ cls := "DigitChipModel", name := "pick", desc := "(I)V" } : Jvm.MethodName)) ∈ zT := zT_in b658 rfl
theorem b659 : (Jvm.Cond.privateMethod ({ cls := "DigitChipModel", name := "pick", desc := "(I)V" } : Jvm.MethodName)) ∈ lw_tbl := zT_tb (List.mem_append_right tables_1_1 (List.mem_append_right tables_1_2 (List.mem_append_left tables_1_4 (List.mem_of_getElem? (i := 179) rfl))))
theorem b660 : (Jvm.Cond.instanceMethod ({ cls := "DigitChipModel", name := "pick", desc := "(I)V" } : Jvm.MethodName)) ∈ lw_tbl := zT_tb (List.mem_append_right tables_1_1 (List.mem_append_right tables_1_2 (List.mem_append_left tables_1_4 (List.mem_of_getElem? (i := 180) rfl))))
theorem q660 : (Jvm.Cond.instanceMethod ({ cls := "DigitChipModel", name := "pick", desc := "(I)V" } : Jvm.MethodName)) ∈ zT := zT_in b660 rfl
theorem b661 : (Jvm.Cond.code ({ cls := "DigitChipModel", name := "pick", desc := "(I)V" } : Jvm.MethodName) prog_7_method_12_code (2 : Nat) (Option.none : Option Jvm.ClassFile.FieldType)) ∈ lw_tbl := zT_tb (List.mem_append_right tables_1_1 (List.mem_append_right tables_1_2 (List.mem_append_left tables_1_4 (List.mem_of_getElem? (i := 181) rfl))))
theorem q661 : (Jvm.Cond.code ({ cls := "DigitChipModel", name := "pick", desc := "(I)V" } : Jvm.MethodName) prog_7_method_12_code (2 : Nat) (Option.none : Option Jvm.ClassFile.FieldType)) ∈ zT := zT_in b661 rfl
theorem b662 : (Jvm.Cond.methodLink "DigitChipLaw" (27 : Nat) ({ cls := "DigitChipModel", name := "type", desc := "(C)Z" } : Jvm.MethodName)) ∈ lw_tbl := zT_tb (List.mem_append_right tables_1_1 (List.mem_append_right tables_1_2 (List.mem_append_left tables_1_4 (List.mem_of_getElem? (i := 182) rfl))))
theorem q662 : (Jvm.Cond.methodLink "DigitChipLaw" (27 : Nat) ({ cls := "DigitChipModel", name := "type", desc := "(C)Z" } : Jvm.MethodName)) ∈ zT := zT_in b662 rfl
theorem b663 : (Jvm.Cond.instanceMethod ({ cls := "DigitChipModel", name := "type", desc := "(C)Z" } : Jvm.MethodName)) ∈ lw_tbl := zT_tb (List.mem_append_right tables_1_1 (List.mem_append_right tables_1_2 (List.mem_append_left tables_1_4 (List.mem_of_getElem? (i := 183) rfl))))
theorem q663 : (Jvm.Cond.instanceMethod ({ cls := "DigitChipModel", name := "type", desc := "(C)Z" } : Jvm.MethodName)) ∈ zT := zT_in b663 rfl
theorem b664 : (Jvm.Cond.selects "DigitChipModel" ({ cls := "DigitChipModel", name := "type", desc := "(C)Z" } : Jvm.MethodName) ({ cls := "DigitChipModel", name := "type", desc := "(C)Z" } : Jvm.MethodName)) ∈ lw_tbl := zT_tb (List.mem_append_right tables_1_1 (List.mem_append_right tables_1_2 (List.mem_append_left tables_1_4 (List.mem_of_getElem? (i := 184) rfl))))
theorem q664 : (Jvm.Cond.selects "DigitChipModel" ({ cls := "DigitChipModel", name := "type", desc := "(C)Z" } : Jvm.MethodName) ({ cls := "DigitChipModel", name := "type", desc := "(C)Z" } : Jvm.MethodName)) ∈ zT := zT_in b664 rfl
theorem b665 : (Jvm.Cond.code ({ cls := "DigitChipModel", name := "type", desc := "(C)Z" } : Jvm.MethodName) prog_7_method_24_code (2 : Nat) (Option.some Jvm.ClassFile.FieldType.boolean)) ∈ lw_tbl := zT_tb (List.mem_append_right tables_1_1 (List.mem_append_right tables_1_2 (List.mem_append_left tables_1_4 (List.mem_of_getElem? (i := 185) rfl))))
theorem q665 : (Jvm.Cond.code ({ cls := "DigitChipModel", name := "type", desc := "(C)Z" } : Jvm.MethodName) prog_7_method_24_code (2 : Nat) (Option.some Jvm.ClassFile.FieldType.boolean)) ∈ zT := zT_in b665 rfl
theorem b666 : (Jvm.Cond.methodLink "DigitChipLaw" (33 : Nat) ({ cls := "DigitChipModel", name := "assemble", desc := "()I" } : Jvm.MethodName)) ∈ lw_tbl := zT_tb (List.mem_append_right tables_1_1 (List.mem_append_right tables_1_2 (List.mem_append_left tables_1_4 (List.mem_of_getElem? (i := 186) rfl))))
theorem q666 : (Jvm.Cond.methodLink "DigitChipLaw" (33 : Nat) ({ cls := "DigitChipModel", name := "assemble", desc := "()I" } : Jvm.MethodName)) ∈ zT := zT_in b666 rfl
theorem b667 : (Jvm.Cond.instanceMethod ({ cls := "DigitChipModel", name := "assemble", desc := "()I" } : Jvm.MethodName)) ∈ lw_tbl := zT_tb (List.mem_append_right tables_1_1 (List.mem_append_right tables_1_2 (List.mem_append_left tables_1_4 (List.mem_of_getElem? (i := 187) rfl))))
theorem q667 : (Jvm.Cond.instanceMethod ({ cls := "DigitChipModel", name := "assemble", desc := "()I" } : Jvm.MethodName)) ∈ zT := zT_in b667 rfl
theorem b668 : (Jvm.Cond.selects "DigitChipModel" ({ cls := "DigitChipModel", name := "assemble", desc := "()I" } : Jvm.MethodName) ({ cls := "DigitChipModel", name := "assemble", desc := "()I" } : Jvm.MethodName)) ∈ lw_tbl := zT_tb (List.mem_append_right tables_1_1 (List.mem_append_right tables_1_2 (List.mem_append_left tables_1_4 (List.mem_of_getElem? (i := 188) rfl))))
theorem q668 : (Jvm.Cond.selects "DigitChipModel" ({ cls := "DigitChipModel", name := "assemble", desc := "()I" } : Jvm.MethodName) ({ cls := "DigitChipModel", name := "assemble", desc := "()I" } : Jvm.MethodName)) ∈ zT := zT_in b668 rfl
theorem b669 : (Jvm.Cond.code ({ cls := "DigitChipModel", name := "assemble", desc := "()I" } : Jvm.MethodName) prog_7_method_25_code (2 : Nat) (Option.some Jvm.ClassFile.FieldType.int)) ∈ lw_tbl := zT_tb (List.mem_append_right tables_1_1 (List.mem_append_right tables_1_2 (List.mem_append_left tables_1_4 (List.mem_of_getElem? (i := 189) rfl))))
theorem q669 : (Jvm.Cond.code ({ cls := "DigitChipModel", name := "assemble", desc := "()I" } : Jvm.MethodName) prog_7_method_25_code (2 : Nat) (Option.some Jvm.ClassFile.FieldType.int)) ∈ zT := zT_in b669 rfl
theorem b670 : (Jvm.Cond.methodLink "DigitChipModel" (242 : Nat) ({ cls := "DigitChipModel", name := "read", desc := "()I" } : Jvm.MethodName)) ∈ lw_tbl := zT_tb (List.mem_append_right tables_1_1 (List.mem_append_right tables_1_2 (List.mem_append_left tables_1_4 (List.mem_of_getElem? (i := 190) rfl))))
theorem q670 : (Jvm.Cond.methodLink "DigitChipModel" (242 : Nat) ({ cls := "DigitChipModel", name := "read", desc := "()I" } : Jvm.MethodName)) ∈ zT := zT_in b670 rfl
theorem b671 : (Jvm.Cond.privateMethod ({ cls := "DigitChipModel", name := "read", desc := "()I" } : Jvm.MethodName)) ∈ lw_tbl := zT_tb (List.mem_append_right tables_1_1 (List.mem_append_right tables_1_2 (List.mem_append_left tables_1_4 (List.mem_of_getElem? (i := 191) rfl))))
theorem b672 : (Jvm.Cond.instanceMethod ({ cls := "DigitChipModel", name := "read", desc := "()I" } : Jvm.MethodName)) ∈ lw_tbl := zT_tb (List.mem_append_right tables_1_1 (List.mem_append_right tables_1_2 (List.mem_append_left tables_1_4 (List.mem_of_getElem? (i := 192) rfl))))
theorem q672 : (Jvm.Cond.instanceMethod ({ cls := "DigitChipModel", name := "read", desc := "()I" } : Jvm.MethodName)) ∈ zT := zT_in b672 rfl
theorem b673 : (Jvm.Cond.code ({ cls := "DigitChipModel", name := "read", desc := "()I" } : Jvm.MethodName) prog_7_method_23_code (4 : Nat) (Option.some Jvm.ClassFile.FieldType.int)) ∈ lw_tbl := zT_tb (List.mem_append_right tables_1_1 (List.mem_append_right tables_1_2 (List.mem_append_left tables_1_4 (List.mem_of_getElem? (i := 193) rfl))))
theorem q673 : (Jvm.Cond.code ({ cls := "DigitChipModel", name := "read", desc := "()I" } : Jvm.MethodName) prog_7_method_23_code (4 : Nat) (Option.some Jvm.ClassFile.FieldType.int)) ∈ zT := zT_in b673 rfl
theorem b674 : (Jvm.Cond.methodLink "DigitChipModel" (238 : Nat) ({ cls := "DigitChipModel", name := "take", desc := "(II)Z" } : Jvm.MethodName)) ∈ lw_tbl := zT_tb (List.mem_append_right tables_1_1 (List.mem_append_right tables_1_2 (List.mem_append_left tables_1_4 (List.mem_of_getElem? (i := 194) rfl))))
theorem q674 : (Jvm.Cond.methodLink "DigitChipModel" (238 : Nat) ({ cls := "DigitChipModel", name := "take", desc := "(II)Z" } : Jvm.MethodName)) ∈ zT := zT_in b674 rfl
theorem b675 : (Jvm.Cond.privateMethod ({ cls := "DigitChipModel", name := "take", desc := "(II)Z" } : Jvm.MethodName)) ∈ lw_tbl := zT_tb (List.mem_append_right tables_1_1 (List.mem_append_right tables_1_2 (List.mem_append_left tables_1_4 (List.mem_of_getElem? (i := 195) rfl))))
theorem b676 : (Jvm.Cond.instanceMethod ({ cls := "DigitChipModel", name := "take", desc := "(II)Z" } : Jvm.MethodName)) ∈ lw_tbl := zT_tb (List.mem_append_right tables_1_1 (List.mem_append_right tables_1_2 (List.mem_append_left tables_1_4 (List.mem_of_getElem? (i := 196) rfl))))
theorem q676 : (Jvm.Cond.instanceMethod ({ cls := "DigitChipModel", name := "take", desc := "(II)Z" } : Jvm.MethodName)) ∈ zT := zT_in b676 rfl
theorem b677 : (Jvm.Cond.code ({ cls := "DigitChipModel", name := "take", desc := "(II)Z" } : Jvm.MethodName) prog_7_method_22_code (6 : Nat) (Option.some Jvm.ClassFile.FieldType.boolean)) ∈ lw_tbl := zT_tb (List.mem_append_right tables_1_1 (List.mem_append_right tables_1_2 (List.mem_append_left tables_1_4 (List.mem_of_getElem? (i := 197) rfl))))
theorem q677 : (Jvm.Cond.code ({ cls := "DigitChipModel", name := "take", desc := "(II)Z" } : Jvm.MethodName) prog_7_method_22_code (6 : Nat) (Option.some Jvm.ClassFile.FieldType.boolean)) ∈ zT := zT_in b677 rfl
theorem b678 : (Jvm.Cond.methodLink "DigitChipModel" (231 : Nat) ({ cls := "DigitChipModel", name := "wordOf", desc := "(II)I" } : Jvm.MethodName)) ∈ lw_tbl := zT_tb (List.mem_append_right tables_1_1 (List.mem_append_right tables_1_2 (List.mem_append_left tables_1_4 (List.mem_of_getElem? (i := 198) rfl))))
theorem q678 : (Jvm.Cond.methodLink "DigitChipModel" (231 : Nat) ({ cls := "DigitChipModel", name := "wordOf", desc := "(II)I" } : Jvm.MethodName)) ∈ zT := zT_in b678 rfl
theorem b679 : (Jvm.Cond.privateMethod ({ cls := "DigitChipModel", name := "wordOf", desc := "(II)I" } : Jvm.MethodName)) ∈ lw_tbl := zT_tb (List.mem_append_right tables_1_1 (List.mem_append_right tables_1_2 (List.mem_append_left tables_1_4 (List.mem_of_getElem? (i := 199) rfl))))
theorem b680 : (Jvm.Cond.instanceMethod ({ cls := "DigitChipModel", name := "wordOf", desc := "(II)I" } : Jvm.MethodName)) ∈ lw_tbl := zT_tb (List.mem_append_right tables_1_1 (List.mem_append_right tables_1_2 (List.mem_append_left tables_1_4 (List.mem_of_getElem? (i := 200) rfl))))
theorem q680 : (Jvm.Cond.instanceMethod ({ cls := "DigitChipModel", name := "wordOf", desc := "(II)I" } : Jvm.MethodName)) ∈ zT := zT_in b680 rfl
theorem b681 : (Jvm.Cond.code ({ cls := "DigitChipModel", name := "wordOf", desc := "(II)I" } : Jvm.MethodName) prog_7_method_21_code (7 : Nat) (Option.some Jvm.ClassFile.FieldType.int)) ∈ lw_tbl := zT_tb (List.mem_append_right tables_1_1 (List.mem_append_right tables_1_2 (List.mem_append_left tables_1_4 (List.mem_of_getElem? (i := 201) rfl))))
theorem q681 : (Jvm.Cond.code ({ cls := "DigitChipModel", name := "wordOf", desc := "(II)I" } : Jvm.MethodName) prog_7_method_21_code (7 : Nat) (Option.some Jvm.ClassFile.FieldType.int)) ∈ zT := zT_in b681 rfl
theorem b682 : (Jvm.Cond.methodLink "DigitChipModel" (207 : Nat) ({ cls := "DigitChipModel", name := "numberAt", desc := "(I)I" } : Jvm.MethodName)) ∈ lw_tbl := zT_tb (List.mem_append_right tables_1_1 (List.mem_append_right tables_1_2 (List.mem_append_left tables_1_4 (List.mem_of_getElem? (i := 202) rfl))))
theorem q682 : (Jvm.Cond.methodLink "DigitChipModel" (207 : Nat) ({ cls := "DigitChipModel", name := "numberAt", desc := "(I)I" } : Jvm.MethodName)) ∈ zT := zT_in b682 rfl
theorem b683 : (Jvm.Cond.static ({ cls := "DigitChipModel", name := "numberAt", desc := "(I)I" } : Jvm.MethodName)) ∈ lw_tbl := zT_tb (List.mem_append_right tables_1_1 (List.mem_append_right tables_1_2 (List.mem_append_left tables_1_4 (List.mem_of_getElem? (i := 203) rfl))))
theorem q683 : (Jvm.Cond.static ({ cls := "DigitChipModel", name := "numberAt", desc := "(I)I" } : Jvm.MethodName)) ∈ zT := zT_in b683 rfl
theorem b684 : (Jvm.Cond.code ({ cls := "DigitChipModel", name := "numberAt", desc := "(I)I" } : Jvm.MethodName) prog_7_method_17_code (1 : Nat) (Option.some Jvm.ClassFile.FieldType.int)) ∈ lw_tbl := zT_tb (List.mem_append_right tables_1_1 (List.mem_append_right tables_1_2 (List.mem_append_left tables_1_4 (List.mem_of_getElem? (i := 204) rfl))))
theorem q684 : (Jvm.Cond.code ({ cls := "DigitChipModel", name := "numberAt", desc := "(I)I" } : Jvm.MethodName) prog_7_method_17_code (1 : Nat) (Option.some Jvm.ClassFile.FieldType.int)) ∈ zT := zT_in b684 rfl
theorem b685 : (Jvm.Cond.methodLink "DigitChipModel" (211 : Nat) ({ cls := "DigitChipModel", name := "name", desc := "(III)J" } : Jvm.MethodName)) ∈ lw_tbl := zT_tb (List.mem_append_right tables_1_1 (List.mem_append_right tables_1_2 (List.mem_append_left tables_1_4 (List.mem_of_getElem? (i := 205) rfl))))
theorem q685 : (Jvm.Cond.methodLink "DigitChipModel" (211 : Nat) ({ cls := "DigitChipModel", name := "name", desc := "(III)J" } : Jvm.MethodName)) ∈ zT := zT_in b685 rfl
theorem b686 : (Jvm.Cond.privateMethod ({ cls := "DigitChipModel", name := "name", desc := "(III)J" } : Jvm.MethodName)) ∈ lw_tbl := zT_tb (List.mem_append_right tables_1_1 (List.mem_append_right tables_1_2 (List.mem_append_left tables_1_4 (List.mem_of_getElem? (i := 206) rfl))))
theorem b687 : (Jvm.Cond.instanceMethod ({ cls := "DigitChipModel", name := "name", desc := "(III)J" } : Jvm.MethodName)) ∈ lw_tbl := zT_tb (List.mem_append_right tables_1_1 (List.mem_append_right tables_1_2 (List.mem_append_left tables_1_4 (List.mem_of_getElem? (i := 207) rfl))))
theorem q687 : (Jvm.Cond.instanceMethod ({ cls := "DigitChipModel", name := "name", desc := "(III)J" } : Jvm.MethodName)) ∈ zT := zT_in b687 rfl
theorem b688 : (Jvm.Cond.code ({ cls := "DigitChipModel", name := "name", desc := "(III)J" } : Jvm.MethodName) prog_7_method_19_code (7 : Nat) (Option.some Jvm.ClassFile.FieldType.long)) ∈ lw_tbl := zT_tb (List.mem_append_right tables_1_1 (List.mem_append_right tables_1_2 (List.mem_append_left tables_1_4 (List.mem_of_getElem? (i := 208) rfl))))
theorem q688 : (Jvm.Cond.code ({ cls := "DigitChipModel", name := "name", desc := "(III)J" } : Jvm.MethodName) prog_7_method_19_code (7 : Nat) (Option.some Jvm.ClassFile.FieldType.long)) ∈ zT := zT_in b688 rfl
theorem b689 : (Jvm.Cond.methodLink "DigitChipModel" (215 : Nat) ({ cls := "DigitChipModel", name := "control", desc := "(I)J" } : Jvm.MethodName)) ∈ lw_tbl := zT_tb (List.mem_append_right tables_1_1 (List.mem_append_right tables_1_2 (List.mem_append_left tables_1_4 (List.mem_of_getElem? (i := 209) rfl))))
theorem q689 : (Jvm.Cond.methodLink "DigitChipModel" (215 : Nat) ({ cls := "DigitChipModel", name := "control", desc := "(I)J" } : Jvm.MethodName)) ∈ zT := zT_in b689 rfl
theorem b690 : (Jvm.Cond.static ({ cls := "DigitChipModel", name := "control", desc := "(I)J" } : Jvm.MethodName)) ∈ lw_tbl := zT_tb (List.mem_append_right tables_1_1 (List.mem_append_right tables_1_2 (List.mem_append_left tables_1_4 (List.mem_of_getElem? (i := 210) rfl))))
theorem q690 : (Jvm.Cond.static ({ cls := "DigitChipModel", name := "control", desc := "(I)J" } : Jvm.MethodName)) ∈ zT := zT_in b690 rfl
theorem b691 : (Jvm.Cond.code ({ cls := "DigitChipModel", name := "control", desc := "(I)J" } : Jvm.MethodName) prog_7_method_15_code (1 : Nat) (Option.some Jvm.ClassFile.FieldType.long)) ∈ lw_tbl := zT_tb (List.mem_append_right tables_1_1 (List.mem_append_right tables_1_2 (List.mem_append_left tables_1_4 (List.mem_of_getElem? (i := 211) rfl))))
theorem q691 : (Jvm.Cond.code ({ cls := "DigitChipModel", name := "control", desc := "(I)J" } : Jvm.MethodName) prog_7_method_15_code (1 : Nat) (Option.some Jvm.ClassFile.FieldType.long)) ∈ zT := zT_in b691 rfl
theorem b692 : (Jvm.Cond.constantLong "DigitChipModel" (111 : Nat) (28271 : Int64)) ∈ lw_tbl := zT_tb (List.mem_append_right tables_1_1 (List.mem_append_right tables_1_2 (List.mem_append_left tables_1_4 (List.mem_of_getElem? (i := 212) rfl))))
theorem q692 : (Jvm.Cond.constantLong "DigitChipModel" (111 : Nat) (28271 : Int64)) ∈ zT := zT_in b692 rfl
theorem b693 : (Jvm.Cond.constantLong "DigitChipModel" (113 : Nat) (7355683 : Int64)) ∈ lw_tbl := zT_tb (List.mem_append_right tables_1_1 (List.mem_append_right tables_1_2 (List.mem_append_left tables_1_4 (List.mem_of_getElem? (i := 213) rfl))))
theorem q693 : (Jvm.Cond.constantLong "DigitChipModel" (113 : Nat) (7355683 : Int64)) ∈ zT := zT_in b693 rfl
theorem b694 : (Jvm.Cond.constantLong "DigitChipModel" (115 : Nat) (1064320291 : Int64)) ∈ lw_tbl := zT_tb (List.mem_append_right tables_1_1 (List.mem_append_right tables_1_2 (List.mem_append_left tables_1_4 (List.mem_of_getElem? (i := 214) rfl))))
theorem q694 : (Jvm.Cond.constantLong "DigitChipModel" (115 : Nat) (1064320291 : Int64)) ∈ zT := zT_in b694 rfl
theorem b695 : (Jvm.Cond.constantLong "DigitChipModel" (117 : Nat) (7545643 : Int64)) ∈ lw_tbl := zT_tb (List.mem_append_right tables_1_1 (List.mem_append_right tables_1_2 (List.mem_append_left tables_1_4 (List.mem_of_getElem? (i := 215) rfl))))
theorem q695 : (Jvm.Cond.constantLong "DigitChipModel" (117 : Nat) (7545643 : Int64)) ∈ zT := zT_in b695 rfl
theorem b696 : (Jvm.Cond.constantLong "DigitChipModel" (119 : Nat) (7545645 : Int64)) ∈ lw_tbl := zT_tb (List.mem_append_right tables_1_1 (List.mem_append_right tables_1_2 (List.mem_append_left tables_1_4 (List.mem_of_getElem? (i := 216) rfl))))
theorem q696 : (Jvm.Cond.constantLong "DigitChipModel" (119 : Nat) (7545645 : Int64)) ∈ zT := zT_in b696 rfl
theorem b697 : (Jvm.Cond.constantLong "DigitChipModel" (121 : Nat) (4158243 : Int64)) ∈ lw_tbl := zT_tb (List.mem_append_right tables_1_1 (List.mem_append_right tables_1_2 (List.mem_append_left tables_1_4 (List.mem_of_getElem? (i := 217) rfl))))
theorem q697 : (Jvm.Cond.constantLong "DigitChipModel" (121 : Nat) (4158243 : Int64)) ∈ zT := zT_in b697 rfl
theorem b698 : (Jvm.Cond.constantLong "DigitChipModel" (123 : Nat) (27683 : Int64)) ∈ lw_tbl := zT_tb (List.mem_append_right tables_1_1 (List.mem_append_right tables_1_2 (List.mem_append_left tables_1_4 (List.mem_of_getElem? (i := 218) rfl))))
theorem q698 : (Jvm.Cond.constantLong "DigitChipModel" (123 : Nat) (27683 : Int64)) ∈ zT := zT_in b698 rfl
theorem b699 : (Jvm.Cond.constantLong "DigitChipModel" (125 : Nat) (28715 : Int64)) ∈ lw_tbl := zT_tb (List.mem_append_right tables_1_1 (List.mem_append_right tables_1_2 (List.mem_append_left tables_1_4 (List.mem_of_getElem? (i := 219) rfl))))
theorem q699 : (Jvm.Cond.constantLong "DigitChipModel" (125 : Nat) (28715 : Int64)) ∈ zT := zT_in b699 rfl
theorem b700 : (Jvm.Cond.constantLong "DigitChipModel" (127 : Nat) (28717 : Int64)) ∈ lw_tbl := zT_tb (List.mem_append_right tables_1_1 (List.mem_append_right tables_1_2 (List.mem_append_left tables_1_4 (List.mem_of_getElem? (i := 220) rfl))))
theorem q700 : (Jvm.Cond.constantLong "DigitChipModel" (127 : Nat) (28717 : Int64)) ∈ zT := zT_in b700 rfl
theorem b701 : (Jvm.Cond.constantLong "DigitChipModel" (129 : Nat) (1886745448 : Int64)) ∈ lw_tbl := zT_tb (List.mem_append_right tables_1_1 (List.mem_append_right tables_1_2 (List.mem_append_left tables_1_4 (List.mem_of_getElem? (i := 221) rfl))))
theorem q701 : (Jvm.Cond.constantLong "DigitChipModel" (129 : Nat) (1886745448 : Int64)) ∈ zT := zT_in b701 rfl
theorem b702 : (Jvm.Cond.constantLong "DigitChipModel" (131 : Nat) (7368560 : Int64)) ∈ lw_tbl := zT_tb (List.mem_append_right tables_1_1 (List.mem_append_right tables_1_2 (List.mem_append_left tables_1_4 (List.mem_of_getElem? (i := 222) rfl))))
theorem q702 : (Jvm.Cond.constantLong "DigitChipModel" (131 : Nat) (7368560 : Int64)) ∈ zT := zT_in b702 rfl
theorem b703 : (Jvm.Cond.constantLong "DigitChipModel" (133 : Nat) (1650549611 : Int64)) ∈ lw_tbl := zT_tb (List.mem_append_right tables_1_1 (List.mem_append_right tables_1_2 (List.mem_append_left tables_1_4 (List.mem_of_getElem? (i := 223) rfl))))
theorem q703 : (Jvm.Cond.constantLong "DigitChipModel" (133 : Nat) (1650549611 : Int64)) ∈ zT := zT_in b703 rfl
theorem b704 : (Jvm.Cond.constantLong "DigitChipModel" (135 : Nat) (7038329 : Int64)) ∈ lw_tbl := zT_tb (List.mem_append_right tables_1_1 (List.mem_append_right tables_1_2 (List.mem_append_left tables_1_4 (List.mem_of_getElem? (i := 224) rfl))))
theorem q704 : (Jvm.Cond.constantLong "DigitChipModel" (135 : Nat) (7038329 : Int64)) ∈ zT := zT_in b704 rfl
theorem b705 : (Jvm.Cond.constantLong "DigitChipModel" (137 : Nat) (1937010544 : Int64)) ∈ lw_tbl := zT_tb (List.mem_append_right tables_1_1 (List.mem_append_right tables_1_2 (List.mem_append_left tables_1_4 (List.mem_of_getElem? (i := 225) rfl))))
theorem q705 : (Jvm.Cond.constantLong "DigitChipModel" (137 : Nat) (1937010544 : Int64)) ∈ zT := zT_in b705 rfl
theorem b706 : (Jvm.Cond.constantLong "DigitChipModel" (139 : Nat) (4405837 : Int64)) ∈ lw_tbl := zT_tb (List.mem_append_right tables_1_1 (List.mem_append_right tables_1_2 (List.mem_append_left tables_1_4 (List.mem_of_getElem? (i := 226) rfl))))
theorem q706 : (Jvm.Cond.constantLong "DigitChipModel" (139 : Nat) (4405837 : Int64)) ∈ zT := zT_in b706 rfl
theorem b707 : (Jvm.Cond.constantLong "DigitChipModel" (141 : Nat) (1685026670 : Int64)) ∈ lw_tbl := zT_tb (List.mem_append_right tables_1_1 (List.mem_append_right tables_1_2 (List.mem_append_left tables_1_4 (List.mem_of_getElem? (i := 227) rfl))))
theorem q707 : (Jvm.Cond.constantLong "DigitChipModel" (141 : Nat) (1685026670 : Int64)) ∈ zT := zT_in b707 rfl
theorem b708 : (Jvm.Cond.methodLink "DigitChipModel" (218 : Nat) ({ cls := "DigitChipModel", name := "digit", desc := "(C)I" } : Jvm.MethodName)) ∈ lw_tbl := zT_tb (List.mem_append_right tables_1_1 (List.mem_append_right tables_1_2 (List.mem_append_left tables_1_4 (List.mem_of_getElem? (i := 228) rfl))))
theorem q708 : (Jvm.Cond.methodLink "DigitChipModel" (218 : Nat) ({ cls := "DigitChipModel", name := "digit", desc := "(C)I" } : Jvm.MethodName)) ∈ zT := zT_in b708 rfl
theorem b709 : (Jvm.Cond.static ({ cls := "DigitChipModel", name := "digit", desc := "(C)I" } : Jvm.MethodName)) ∈ lw_tbl := zT_tb (List.mem_append_right tables_1_1 (List.mem_append_right tables_1_2 (List.mem_append_left tables_1_4 (List.mem_of_getElem? (i := 229) rfl))))
theorem q709 : (Jvm.Cond.static ({ cls := "DigitChipModel", name := "digit", desc := "(C)I" } : Jvm.MethodName)) ∈ zT := zT_in b709 rfl
theorem b710 : (Jvm.Cond.code ({ cls := "DigitChipModel", name := "digit", desc := "(C)I" } : Jvm.MethodName) prog_7_method_18_code (1 : Nat) (Option.some Jvm.ClassFile.FieldType.int)) ∈ lw_tbl := zT_tb (List.mem_append_right tables_1_1 (List.mem_append_right tables_1_2 (List.mem_append_left tables_1_4 (List.mem_of_getElem? (i := 230) rfl))))
theorem q710 : (Jvm.Cond.code ({ cls := "DigitChipModel", name := "digit", desc := "(C)I" } : Jvm.MethodName) prog_7_method_18_code (1 : Nat) (Option.some Jvm.ClassFile.FieldType.int)) ∈ zT := zT_in b710 rfl
theorem b711 : (Jvm.Cond.methodLink "DigitChipModel" (222 : Nat) ({ cls := "DigitChipModel", name := "fieldOf", desc := "(C)I" } : Jvm.MethodName)) ∈ lw_tbl := zT_tb (List.mem_append_right tables_1_1 (List.mem_append_right tables_1_2 (List.mem_append_left tables_1_4 (List.mem_of_getElem? (i := 231) rfl))))
theorem q711 : (Jvm.Cond.methodLink "DigitChipModel" (222 : Nat) ({ cls := "DigitChipModel", name := "fieldOf", desc := "(C)I" } : Jvm.MethodName)) ∈ zT := zT_in b711 rfl
theorem b712 : (Jvm.Cond.static ({ cls := "DigitChipModel", name := "fieldOf", desc := "(C)I" } : Jvm.MethodName)) ∈ lw_tbl := zT_tb (List.mem_append_right tables_1_1 (List.mem_append_right tables_1_2 (List.mem_append_left tables_1_4 (List.mem_of_getElem? (i := 232) rfl))))
theorem q712 : (Jvm.Cond.static ({ cls := "DigitChipModel", name := "fieldOf", desc := "(C)I" } : Jvm.MethodName)) ∈ zT := zT_in b712 rfl
theorem b713 : (Jvm.Cond.code ({ cls := "DigitChipModel", name := "fieldOf", desc := "(C)I" } : Jvm.MethodName) prog_7_method_20_code (1 : Nat) (Option.some Jvm.ClassFile.FieldType.int)) ∈ lw_tbl := zT_tb (List.mem_append_right tables_1_1 (List.mem_append_right tables_1_2 (List.mem_append_left tables_1_4 (List.mem_of_getElem? (i := 233) rfl))))
theorem q713 : (Jvm.Cond.code ({ cls := "DigitChipModel", name := "fieldOf", desc := "(C)I" } : Jvm.MethodName) prog_7_method_20_code (1 : Nat) (Option.some Jvm.ClassFile.FieldType.int)) ∈ zT := zT_in b713 rfl
theorem b714 : (Jvm.Cond.methodLink "DigitChipModel" (225 : Nat) ({ cls := "DigitChipModel", name := "sum", desc := "(I)J" } : Jvm.MethodName)) ∈ lw_tbl := zT_tb (List.mem_append_right tables_1_1 (List.mem_append_right tables_1_2 (List.mem_append_left tables_1_4 (List.mem_of_getElem? (i := 234) rfl))))
theorem q714 : (Jvm.Cond.methodLink "DigitChipModel" (225 : Nat) ({ cls := "DigitChipModel", name := "sum", desc := "(I)J" } : Jvm.MethodName)) ∈ zT := zT_in b714 rfl
theorem b715 : (Jvm.Cond.static ({ cls := "DigitChipModel", name := "sum", desc := "(I)J" } : Jvm.MethodName)) ∈ lw_tbl := zT_tb (List.mem_append_right tables_1_1 (List.mem_append_right tables_1_2 (List.mem_append_left tables_1_4 (List.mem_of_getElem? (i := 235) rfl))))
theorem q715 : (Jvm.Cond.static ({ cls := "DigitChipModel", name := "sum", desc := "(I)J" } : Jvm.MethodName)) ∈ zT := zT_in b715 rfl
theorem b716 : (Jvm.Cond.code ({ cls := "DigitChipModel", name := "sum", desc := "(I)J" } : Jvm.MethodName) prog_7_method_16_code (1 : Nat) (Option.some Jvm.ClassFile.FieldType.long)) ∈ lw_tbl := zT_tb (List.mem_append_right tables_1_1 (List.mem_append_right tables_1_2 (List.mem_append_left tables_1_4 (List.mem_of_getElem? (i := 236) rfl))))
theorem q716 : (Jvm.Cond.code ({ cls := "DigitChipModel", name := "sum", desc := "(I)J" } : Jvm.MethodName) prog_7_method_16_code (1 : Nat) (Option.some Jvm.ClassFile.FieldType.long)) ∈ zT := zT_in b716 rfl
theorem b717 : (Jvm.Cond.constantLong "DigitChipModel" (143 : Nat) (4275504 : Int64)) ∈ lw_tbl := zT_tb (List.mem_append_right tables_1_1 (List.mem_append_right tables_1_2 (List.mem_append_left tables_1_4 (List.mem_of_getElem? (i := 237) rfl))))
theorem q717 : (Jvm.Cond.constantLong "DigitChipModel" (143 : Nat) (4275504 : Int64)) ∈ zT := zT_in b717 rfl
theorem b718 : (Jvm.Cond.constantLong "DigitChipModel" (145 : Nat) (4341040 : Int64)) ∈ lw_tbl := zT_tb (List.mem_append_right tables_1_1 (List.mem_append_right tables_1_2 (List.mem_append_left tables_1_4 (List.mem_of_getElem? (i := 238) rfl))))
theorem q718 : (Jvm.Cond.constantLong "DigitChipModel" (145 : Nat) (4341040 : Int64)) ∈ zT := zT_in b718 rfl
theorem b719 : (Jvm.Cond.constantLong "DigitChipModel" (147 : Nat) (4406576 : Int64)) ∈ lw_tbl := zT_tb (List.mem_append_right tables_1_1 (List.mem_append_right tables_1_2 (List.mem_append_left tables_1_4 (List.mem_of_getElem? (i := 239) rfl))))
theorem q719 : (Jvm.Cond.constantLong "DigitChipModel" (147 : Nat) (4406576 : Int64)) ∈ zT := zT_in b719 rfl
theorem b720 : (Jvm.Cond.constantLong "DigitChipModel" (149 : Nat) (4274754 : Int64)) ∈ lw_tbl := zT_tb (List.mem_append_right tables_1_1 (List.mem_append_right tables_1_2 (List.mem_append_right tables_1_3 (List.mem_of_getElem? (i := 0) rfl))))
theorem q720 : (Jvm.Cond.constantLong "DigitChipModel" (149 : Nat) (4274754 : Int64)) ∈ zT := zT_in b720 rfl
theorem b721 : (Jvm.Cond.constantLong "DigitChipModel" (151 : Nat) (4341057 : Int64)) ∈ lw_tbl := zT_tb (List.mem_append_right tables_1_1 (List.mem_append_right tables_1_2 (List.mem_append_right tables_1_3 (List.mem_of_getElem? (i := 1) rfl))))
theorem q721 : (Jvm.Cond.constantLong "DigitChipModel" (151 : Nat) (4341057 : Int64)) ∈ zT := zT_in b721 rfl
theorem b722 : (Jvm.Cond.constantLong "DigitChipModel" (153 : Nat) (4274755 : Int64)) ∈ lw_tbl := zT_tb (List.mem_append_right tables_1_1 (List.mem_append_right tables_1_2 (List.mem_append_right tables_1_3 (List.mem_of_getElem? (i := 2) rfl))))
theorem q722 : (Jvm.Cond.constantLong "DigitChipModel" (153 : Nat) (4274755 : Int64)) ∈ zT := zT_in b722 rfl
theorem b723 : (Jvm.Cond.constantLong "DigitChipModel" (155 : Nat) (4406594 : Int64)) ∈ lw_tbl := zT_tb (List.mem_append_right tables_1_1 (List.mem_append_right tables_1_2 (List.mem_append_right tables_1_3 (List.mem_of_getElem? (i := 3) rfl))))
theorem q723 : (Jvm.Cond.constantLong "DigitChipModel" (155 : Nat) (4406594 : Int64)) ∈ zT := zT_in b723 rfl
theorem b724 : (Jvm.Cond.constantLong "DigitChipModel" (157 : Nat) (4340291 : Int64)) ∈ lw_tbl := zT_tb (List.mem_append_right tables_1_1 (List.mem_append_right tables_1_2 (List.mem_append_right tables_1_3 (List.mem_of_getElem? (i := 4) rfl))))
theorem q724 : (Jvm.Cond.constantLong "DigitChipModel" (157 : Nat) (4340291 : Int64)) ∈ zT := zT_in b724 rfl
theorem b725 : (Jvm.Cond.constantLong "DigitChipModel" (159 : Nat) (280200555330 : Int64)) ∈ lw_tbl := zT_tb (List.mem_append_right tables_1_1 (List.mem_append_right tables_1_2 (List.mem_append_right tables_1_3 (List.mem_of_getElem? (i := 5) rfl))))
theorem q725 : (Jvm.Cond.constantLong "DigitChipModel" (159 : Nat) (280200555330 : Int64)) ∈ zT := zT_in b725 rfl
theorem b726 : (Jvm.Cond.constantLong "DigitChipModel" (161 : Nat) (280200555331 : Int64)) ∈ lw_tbl := zT_tb (List.mem_append_right tables_1_1 (List.mem_append_right tables_1_2 (List.mem_append_right tables_1_3 (List.mem_of_getElem? (i := 6) rfl))))
theorem q726 : (Jvm.Cond.constantLong "DigitChipModel" (161 : Nat) (280200555331 : Int64)) ∈ zT := zT_in b726 rfl
theorem b727 : (Jvm.Cond.constantLong "DigitChipModel" (163 : Nat) (288790489923 : Int64)) ∈ lw_tbl := zT_tb (List.mem_append_right tables_1_1 (List.mem_append_right tables_1_2 (List.mem_append_right tables_1_3 (List.mem_of_getElem? (i := 7) rfl))))
theorem q727 : (Jvm.Cond.constantLong "DigitChipModel" (163 : Nat) (288790489923 : Int64)) ∈ zT := zT_in b727 rfl
theorem b728 : (Jvm.Cond.constantLong "DigitChipModel" (165 : Nat) (280200555313 : Int64)) ∈ lw_tbl := zT_tb (List.mem_append_right tables_1_1 (List.mem_append_right tables_1_2 (List.mem_append_right tables_1_3 (List.mem_of_getElem? (i := 8) rfl))))
theorem q728 : (Jvm.Cond.constantLong "DigitChipModel" (165 : Nat) (280200555313 : Int64)) ∈ zT := zT_in b728 rfl
theorem b729 : (Jvm.Cond.constantLong "DigitChipModel" (167 : Nat) (288790620977 : Int64)) ∈ lw_tbl := zT_tb (List.mem_append_right tables_1_1 (List.mem_append_right tables_1_2 (List.mem_append_right tables_1_3 (List.mem_of_getElem? (i := 9) rfl))))
theorem q729 : (Jvm.Cond.constantLong "DigitChipModel" (167 : Nat) (288790620977 : Int64)) ∈ zT := zT_in b729 rfl
theorem b730 : (Jvm.Cond.constantLong "DigitChipModel" (169 : Nat) (280200555842 : Int64)) ∈ lw_tbl := zT_tb (List.mem_append_right tables_1_1 (List.mem_append_right tables_1_2 (List.mem_append_right tables_1_3 (List.mem_of_getElem? (i := 10) rfl))))
theorem q730 : (Jvm.Cond.constantLong "DigitChipModel" (169 : Nat) (280200555842 : Int64)) ∈ zT := zT_in b730 rfl
theorem b731 : (Jvm.Cond.constantLong "DigitChipModel" (171 : Nat) (280200555843 : Int64)) ∈ lw_tbl := zT_tb (List.mem_append_right tables_1_1 (List.mem_append_right tables_1_2 (List.mem_append_right tables_1_3 (List.mem_of_getElem? (i := 11) rfl))))
theorem q731 : (Jvm.Cond.constantLong "DigitChipModel" (171 : Nat) (280200555843 : Int64)) ∈ zT := zT_in b731 rfl
theorem b732 : (Jvm.Cond.constantLong "DigitChipModel" (173 : Nat) (288790490435 : Int64)) ∈ lw_tbl := zT_tb (List.mem_append_right tables_1_1 (List.mem_append_right tables_1_2 (List.mem_append_right tables_1_3 (List.mem_of_getElem? (i := 12) rfl))))
theorem q732 : (Jvm.Cond.constantLong "DigitChipModel" (173 : Nat) (288790490435 : Int64)) ∈ zT := zT_in b732 rfl
theorem b733 : (Jvm.Cond.constantLong "DigitChipModel" (175 : Nat) (280200555825 : Int64)) ∈ lw_tbl := zT_tb (List.mem_append_right tables_1_1 (List.mem_append_right tables_1_2 (List.mem_append_right tables_1_3 (List.mem_of_getElem? (i := 13) rfl))))
theorem q733 : (Jvm.Cond.constantLong "DigitChipModel" (175 : Nat) (280200555825 : Int64)) ∈ zT := zT_in b733 rfl
theorem b734 : (Jvm.Cond.constantLong "DigitChipModel" (177 : Nat) (288790621489 : Int64)) ∈ lw_tbl := zT_tb (List.mem_append_right tables_1_1 (List.mem_append_right tables_1_2 (List.mem_append_right tables_1_3 (List.mem_of_getElem? (i := 14) rfl))))
theorem q734 : (Jvm.Cond.constantLong "DigitChipModel" (177 : Nat) (288790621489 : Int64)) ∈ zT := zT_in b734 rfl
theorem b735 : (Jvm.Cond.constantLong "DigitChipModel" (179 : Nat) (1128082755 : Int64)) ∈ lw_tbl := zT_tb (List.mem_append_right tables_1_1 (List.mem_append_right tables_1_2 (List.mem_append_right tables_1_3 (List.mem_of_getElem? (i := 15) rfl))))
theorem q735 : (Jvm.Cond.constantLong "DigitChipModel" (179 : Nat) (1128082755 : Int64)) ∈ zT := zT_in b735 rfl
theorem b736 : (Jvm.Cond.constantLong "DigitChipModel" (181 : Nat) (73930031443249 : Int64)) ∈ lw_tbl := zT_tb (List.mem_append_right tables_1_1 (List.mem_append_right tables_1_2 (List.mem_append_right tables_1_3 (List.mem_of_getElem? (i := 16) rfl))))
theorem q736 : (Jvm.Cond.constantLong "DigitChipModel" (181 : Nat) (73930031443249 : Int64)) ∈ zT := zT_in b736 rfl
theorem b737 : (Jvm.Cond.constantLong "DigitChipModel" (183 : Nat) (16700 : Int64)) ∈ lw_tbl := zT_tb (List.mem_append_right tables_1_1 (List.mem_append_right tables_1_2 (List.mem_append_right tables_1_3 (List.mem_of_getElem? (i := 17) rfl))))
theorem q737 : (Jvm.Cond.constantLong "DigitChipModel" (183 : Nat) (16700 : Int64)) ∈ zT := zT_in b737 rfl
theorem b738 : (Jvm.Cond.constantLong "DigitChipModel" (185 : Nat) (16702 : Int64)) ∈ lw_tbl := zT_tb (List.mem_append_right tables_1_1 (List.mem_append_right tables_1_2 (List.mem_append_right tables_1_3 (List.mem_of_getElem? (i := 18) rfl))))
theorem q738 : (Jvm.Cond.constantLong "DigitChipModel" (185 : Nat) (16702 : Int64)) ∈ zT := zT_in b738 rfl
theorem b739 : (Jvm.Cond.constantLong "DigitChipModel" (187 : Nat) (16958 : Int64)) ∈ lw_tbl := zT_tb (List.mem_append_right tables_1_1 (List.mem_append_right tables_1_2 (List.mem_append_right tables_1_3 (List.mem_of_getElem? (i := 19) rfl))))
theorem q739 : (Jvm.Cond.constantLong "DigitChipModel" (187 : Nat) (16958 : Int64)) ∈ zT := zT_in b739 rfl
theorem b740 : (Jvm.Cond.constantLong "DigitChipModel" (189 : Nat) (17214 : Int64)) ∈ lw_tbl := zT_tb (List.mem_append_right tables_1_1 (List.mem_append_right tables_1_2 (List.mem_append_right tables_1_3 (List.mem_of_getElem? (i := 20) rfl))))
theorem q740 : (Jvm.Cond.constantLong "DigitChipModel" (189 : Nat) (17214 : Int64)) ∈ zT := zT_in b740 rfl
theorem b741 : (Jvm.Cond.constantLong "DigitChipModel" (191 : Nat) (1061239874 : Int64)) ∈ lw_tbl := zT_tb (List.mem_append_right tables_1_1 (List.mem_append_right tables_1_2 (List.mem_append_right tables_1_3 (List.mem_of_getElem? (i := 21) rfl))))
theorem q741 : (Jvm.Cond.constantLong "DigitChipModel" (191 : Nat) (1061239874 : Int64)) ∈ zT := zT_in b741 rfl
theorem b742 : (Jvm.Cond.constantLong "DigitChipModel" (193 : Nat) (1061239875 : Int64)) ∈ lw_tbl := zT_tb (List.mem_append_right tables_1_1 (List.mem_append_right tables_1_2 (List.mem_append_right tables_1_3 (List.mem_of_getElem? (i := 22) rfl))))
theorem q742 : (Jvm.Cond.constantLong "DigitChipModel" (193 : Nat) (1061239875 : Int64)) ∈ zT := zT_in b742 rfl
theorem b743 : (Jvm.Cond.constantLong "DigitChipModel" (195 : Nat) (16194 : Int64)) ∈ lw_tbl := zT_tb (List.mem_append_right tables_1_1 (List.mem_append_right tables_1_2 (List.mem_append_right tables_1_3 (List.mem_of_getElem? (i := 23) rfl))))
theorem q743 : (Jvm.Cond.constantLong "DigitChipModel" (195 : Nat) (16194 : Int64)) ∈ zT := zT_in b743 rfl
theorem b744 : (Jvm.Cond.constantLong "DigitChipModel" (197 : Nat) (16195 : Int64)) ∈ lw_tbl := zT_tb (List.mem_append_right tables_1_1 (List.mem_append_right tables_1_2 (List.mem_append_right tables_1_3 (List.mem_of_getElem? (i := 24) rfl))))
theorem q744 : (Jvm.Cond.constantLong "DigitChipModel" (197 : Nat) (16195 : Int64)) ∈ zT := zT_in b744 rfl
theorem b745 : (Jvm.Cond.constantLong "DigitChipModel" (199 : Nat) (1061240112 : Int64)) ∈ lw_tbl := zT_tb (List.mem_append_right tables_1_1 (List.mem_append_right tables_1_2 (List.mem_append_right tables_1_3 (List.mem_of_getElem? (i := 25) rfl))))
theorem q745 : (Jvm.Cond.constantLong "DigitChipModel" (199 : Nat) (1061240112 : Int64)) ∈ zT := zT_in b745 rfl
theorem b746 : (Jvm.Cond.constantLong "DigitChipModel" (201 : Nat) (1061371184 : Int64)) ∈ lw_tbl := zT_tb (List.mem_append_right tables_1_1 (List.mem_append_right tables_1_2 (List.mem_append_right tables_1_3 (List.mem_of_getElem? (i := 26) rfl))))
theorem q746 : (Jvm.Cond.constantLong "DigitChipModel" (201 : Nat) (1061371184 : Int64)) ∈ zT := zT_in b746 rfl
theorem b747 : (Jvm.Cond.constantLong "DigitChipModel" (203 : Nat) (288790620995 : Int64)) ∈ lw_tbl := zT_tb (List.mem_append_right tables_1_1 (List.mem_append_right tables_1_2 (List.mem_append_right tables_1_3 (List.mem_of_getElem? (i := 27) rfl))))
theorem q747 : (Jvm.Cond.constantLong "DigitChipModel" (203 : Nat) (288790620995 : Int64)) ∈ zT := zT_in b747 rfl
theorem b748 : (Jvm.Cond.constantLong "DigitChipModel" (205 : Nat) (4275523 : Int64)) ∈ lw_tbl := zT_tb (List.mem_append_right tables_1_1 (List.mem_append_right tables_1_2 (List.mem_append_right tables_1_3 (List.mem_of_getElem? (i := 28) rfl))))
theorem q748 : (Jvm.Cond.constantLong "DigitChipModel" (205 : Nat) (4275523 : Int64)) ∈ zT := zT_in b748 rfl
theorem b749 : (Jvm.Cond.methodLink "DigitChipLaw" (40 : Nat) ({ cls := "DigitChipModel", name := "illAt", desc := "()I" } : Jvm.MethodName)) ∈ lw_tbl := zT_tb (List.mem_append_right tables_1_1 (List.mem_append_right tables_1_2 (List.mem_append_right tables_1_3 (List.mem_of_getElem? (i := 29) rfl))))
theorem q749 : (Jvm.Cond.methodLink "DigitChipLaw" (40 : Nat) ({ cls := "DigitChipModel", name := "illAt", desc := "()I" } : Jvm.MethodName)) ∈ zT := zT_in b749 rfl
theorem b750 : (Jvm.Cond.instanceMethod ({ cls := "DigitChipModel", name := "illAt", desc := "()I" } : Jvm.MethodName)) ∈ lw_tbl := zT_tb (List.mem_append_right tables_1_1 (List.mem_append_right tables_1_2 (List.mem_append_right tables_1_3 (List.mem_of_getElem? (i := 30) rfl))))
theorem q750 : (Jvm.Cond.instanceMethod ({ cls := "DigitChipModel", name := "illAt", desc := "()I" } : Jvm.MethodName)) ∈ zT := zT_in b750 rfl
theorem b751 : (Jvm.Cond.selects "DigitChipModel" ({ cls := "DigitChipModel", name := "illAt", desc := "()I" } : Jvm.MethodName) ({ cls := "DigitChipModel", name := "illAt", desc := "()I" } : Jvm.MethodName)) ∈ lw_tbl := zT_tb (List.mem_append_right tables_1_1 (List.mem_append_right tables_1_2 (List.mem_append_right tables_1_3 (List.mem_of_getElem? (i := 31) rfl))))
theorem q751 : (Jvm.Cond.selects "DigitChipModel" ({ cls := "DigitChipModel", name := "illAt", desc := "()I" } : Jvm.MethodName) ({ cls := "DigitChipModel", name := "illAt", desc := "()I" } : Jvm.MethodName)) ∈ zT := zT_in b751 rfl
theorem b752 : (Jvm.Cond.code ({ cls := "DigitChipModel", name := "illAt", desc := "()I" } : Jvm.MethodName) prog_7_method_26_code (1 : Nat) (Option.some Jvm.ClassFile.FieldType.int)) ∈ lw_tbl := zT_tb (List.mem_append_right tables_1_1 (List.mem_append_right tables_1_2 (List.mem_append_right tables_1_3 (List.mem_of_getElem? (i := 32) rfl))))
theorem q752 : (Jvm.Cond.code ({ cls := "DigitChipModel", name := "illAt", desc := "()I" } : Jvm.MethodName) prog_7_method_26_code (1 : Nat) (Option.some Jvm.ClassFile.FieldType.int)) ∈ zT := zT_in b752 rfl
theorem b753 : (Jvm.Cond.methodLink "DigitChipLaw" (44 : Nat) ({ cls := "DigitChipModel", name := "word", desc := "(I)I" } : Jvm.MethodName)) ∈ lw_tbl := zT_tb (List.mem_append_right tables_1_1 (List.mem_append_right tables_1_2 (List.mem_append_right tables_1_3 (List.mem_of_getElem? (i := 33) rfl))))
theorem q753 : (Jvm.Cond.methodLink "DigitChipLaw" (44 : Nat) ({ cls := "DigitChipModel", name := "word", desc := "(I)I" } : Jvm.MethodName)) ∈ zT := zT_in b753 rfl
theorem b754 : (Jvm.Cond.instanceMethod ({ cls := "DigitChipModel", name := "word", desc := "(I)I" } : Jvm.MethodName)) ∈ lw_tbl := zT_tb (List.mem_append_right tables_1_1 (List.mem_append_right tables_1_2 (List.mem_append_right tables_1_3 (List.mem_of_getElem? (i := 34) rfl))))
theorem q754 : (Jvm.Cond.instanceMethod ({ cls := "DigitChipModel", name := "word", desc := "(I)I" } : Jvm.MethodName)) ∈ zT := zT_in b754 rfl
theorem b755 : (Jvm.Cond.selects "DigitChipModel" ({ cls := "DigitChipModel", name := "word", desc := "(I)I" } : Jvm.MethodName) ({ cls := "DigitChipModel", name := "word", desc := "(I)I" } : Jvm.MethodName)) ∈ lw_tbl := zT_tb (List.mem_append_right tables_1_1 (List.mem_append_right tables_1_2 (List.mem_append_right tables_1_3 (List.mem_of_getElem? (i := 35) rfl))))
theorem q755 : (Jvm.Cond.selects "DigitChipModel" ({ cls := "DigitChipModel", name := "word", desc := "(I)I" } : Jvm.MethodName) ({ cls := "DigitChipModel", name := "word", desc := "(I)I" } : Jvm.MethodName)) ∈ zT := zT_in b755 rfl
theorem b756 : (Jvm.Cond.code ({ cls := "DigitChipModel", name := "word", desc := "(I)I" } : Jvm.MethodName) prog_7_method_27_code (2 : Nat) (Option.some Jvm.ClassFile.FieldType.int)) ∈ lw_tbl := zT_tb (List.mem_append_right tables_1_1 (List.mem_append_right tables_1_2 (List.mem_append_right tables_1_3 (List.mem_of_getElem? (i := 36) rfl))))
theorem q756 : (Jvm.Cond.code ({ cls := "DigitChipModel", name := "word", desc := "(I)I" } : Jvm.MethodName) prog_7_method_27_code (2 : Nat) (Option.some Jvm.ClassFile.FieldType.int)) ∈ zT := zT_in b756 rfl
theorem b757 : (Jvm.Cond.methodLink "DigitChipLaw" (49 : Nat) ({ cls := "DigitChipModel", name := "poke", desc := "(II)Z" } : Jvm.MethodName)) ∈ lw_tbl := zT_tb (List.mem_append_right tables_1_1 (List.mem_append_right tables_1_2 (List.mem_append_right tables_1_3 (List.mem_of_getElem? (i := 37) rfl))))
theorem q757 : (Jvm.Cond.methodLink "DigitChipLaw" (49 : Nat) ({ cls := "DigitChipModel", name := "poke", desc := "(II)Z" } : Jvm.MethodName)) ∈ zT := zT_in b757 rfl
theorem b758 : (Jvm.Cond.instanceMethod ({ cls := "DigitChipModel", name := "poke", desc := "(II)Z" } : Jvm.MethodName)) ∈ lw_tbl := zT_tb (List.mem_append_right tables_1_1 (List.mem_append_right tables_1_2 (List.mem_append_right tables_1_3 (List.mem_of_getElem? (i := 38) rfl))))
theorem q758 : (Jvm.Cond.instanceMethod ({ cls := "DigitChipModel", name := "poke", desc := "(II)Z" } : Jvm.MethodName)) ∈ zT := zT_in b758 rfl
theorem b759 : (Jvm.Cond.selects "DigitChipModel" ({ cls := "DigitChipModel", name := "poke", desc := "(II)Z" } : Jvm.MethodName) ({ cls := "DigitChipModel", name := "poke", desc := "(II)Z" } : Jvm.MethodName)) ∈ lw_tbl := zT_tb (List.mem_append_right tables_1_1 (List.mem_append_right tables_1_2 (List.mem_append_right tables_1_3 (List.mem_of_getElem? (i := 39) rfl))))
theorem q759 : (Jvm.Cond.selects "DigitChipModel" ({ cls := "DigitChipModel", name := "poke", desc := "(II)Z" } : Jvm.MethodName) ({ cls := "DigitChipModel", name := "poke", desc := "(II)Z" } : Jvm.MethodName)) ∈ zT := zT_in b759 rfl
theorem b760 : (Jvm.Cond.code ({ cls := "DigitChipModel", name := "poke", desc := "(II)Z" } : Jvm.MethodName) prog_7_method_28_code (3 : Nat) (Option.some Jvm.ClassFile.FieldType.boolean)) ∈ lw_tbl := zT_tb (List.mem_append_right tables_1_1 (List.mem_append_right tables_1_2 (List.mem_append_right tables_1_3 (List.mem_of_getElem? (i := 40) rfl))))
theorem q760 : (Jvm.Cond.code ({ cls := "DigitChipModel", name := "poke", desc := "(II)Z" } : Jvm.MethodName) prog_7_method_28_code (3 : Nat) (Option.some Jvm.ClassFile.FieldType.boolean)) ∈ zT := zT_in b760 rfl
theorem b761 : (Jvm.Cond.methodLink "DigitChipLaw" (54 : Nat) ({ cls := "DigitChipModel", name := "key", desc := "(I)Z" } : Jvm.MethodName)) ∈ lw_tbl := zT_tb (List.mem_append_right tables_1_1 (List.mem_append_right tables_1_2 (List.mem_append_right tables_1_3 (List.mem_of_getElem? (i := 41) rfl))))
theorem q761 : (Jvm.Cond.methodLink "DigitChipLaw" (54 : Nat) ({ cls := "DigitChipModel", name := "key", desc := "(I)Z" } : Jvm.MethodName)) ∈ zT := zT_in b761 rfl
theorem b762 : (Jvm.Cond.instanceMethod ({ cls := "DigitChipModel", name := "key", desc := "(I)Z" } : Jvm.MethodName)) ∈ lw_tbl := zT_tb (List.mem_append_right tables_1_1 (List.mem_append_right tables_1_2 (List.mem_append_right tables_1_3 (List.mem_of_getElem? (i := 42) rfl))))
theorem q762 : (Jvm.Cond.instanceMethod ({ cls := "DigitChipModel", name := "key", desc := "(I)Z" } : Jvm.MethodName)) ∈ zT := zT_in b762 rfl
theorem b763 : (Jvm.Cond.selects "DigitChipModel" ({ cls := "DigitChipModel", name := "key", desc := "(I)Z" } : Jvm.MethodName) ({ cls := "DigitChipModel", name := "key", desc := "(I)Z" } : Jvm.MethodName)) ∈ lw_tbl := zT_tb (List.mem_append_right tables_1_1 (List.mem_append_right tables_1_2 (List.mem_append_right tables_1_3 (List.mem_of_getElem? (i := 43) rfl))))
theorem q763 : (Jvm.Cond.selects "DigitChipModel" ({ cls := "DigitChipModel", name := "key", desc := "(I)Z" } : Jvm.MethodName) ({ cls := "DigitChipModel", name := "key", desc := "(I)Z" } : Jvm.MethodName)) ∈ zT := zT_in b763 rfl
theorem b764 : (Jvm.Cond.code ({ cls := "DigitChipModel", name := "key", desc := "(I)Z" } : Jvm.MethodName) prog_7_method_29_code (2 : Nat) (Option.some Jvm.ClassFile.FieldType.boolean)) ∈ lw_tbl := zT_tb (List.mem_append_right tables_1_1 (List.mem_append_right tables_1_2 (List.mem_append_right tables_1_3 (List.mem_of_getElem? (i := 44) rfl))))
theorem q764 : (Jvm.Cond.code ({ cls := "DigitChipModel", name := "key", desc := "(I)Z" } : Jvm.MethodName) prog_7_method_29_code (2 : Nat) (Option.some Jvm.ClassFile.FieldType.boolean)) ∈ zT := zT_in b764 rfl
theorem b765 : (Jvm.Cond.methodLink "DigitChipLaw" (58 : Nat) ({ cls := "DigitChipModel", name := "keys", desc := "()I" } : Jvm.MethodName)) ∈ lw_tbl := zT_tb (List.mem_append_right tables_1_1 (List.mem_append_right tables_1_2 (List.mem_append_right tables_1_3 (List.mem_of_getElem? (i := 45) rfl))))
theorem q765 : (Jvm.Cond.methodLink "DigitChipLaw" (58 : Nat) ({ cls := "DigitChipModel", name := "keys", desc := "()I" } : Jvm.MethodName)) ∈ zT := zT_in b765 rfl
theorem b766 : (Jvm.Cond.instanceMethod ({ cls := "DigitChipModel", name := "keys", desc := "()I" } : Jvm.MethodName)) ∈ lw_tbl := zT_tb (List.mem_append_right tables_1_1 (List.mem_append_right tables_1_2 (List.mem_append_right tables_1_3 (List.mem_of_getElem? (i := 46) rfl))))
theorem q766 : (Jvm.Cond.instanceMethod ({ cls := "DigitChipModel", name := "keys", desc := "()I" } : Jvm.MethodName)) ∈ zT := zT_in b766 rfl
theorem b767 : (Jvm.Cond.selects "DigitChipModel" ({ cls := "DigitChipModel", name := "keys", desc := "()I" } : Jvm.MethodName) ({ cls := "DigitChipModel", name := "keys", desc := "()I" } : Jvm.MethodName)) ∈ lw_tbl := zT_tb (List.mem_append_right tables_1_1 (List.mem_append_right tables_1_2 (List.mem_append_right tables_1_3 (List.mem_of_getElem? (i := 47) rfl))))
theorem q767 : (Jvm.Cond.selects "DigitChipModel" ({ cls := "DigitChipModel", name := "keys", desc := "()I" } : Jvm.MethodName) ({ cls := "DigitChipModel", name := "keys", desc := "()I" } : Jvm.MethodName)) ∈ zT := zT_in b767 rfl
theorem b768 : (Jvm.Cond.code ({ cls := "DigitChipModel", name := "keys", desc := "()I" } : Jvm.MethodName) prog_7_method_30_code (1 : Nat) (Option.some Jvm.ClassFile.FieldType.int)) ∈ lw_tbl := zT_tb (List.mem_append_right tables_1_1 (List.mem_append_right tables_1_2 (List.mem_append_right tables_1_3 (List.mem_of_getElem? (i := 48) rfl))))
theorem q768 : (Jvm.Cond.code ({ cls := "DigitChipModel", name := "keys", desc := "()I" } : Jvm.MethodName) prog_7_method_30_code (1 : Nat) (Option.some Jvm.ClassFile.FieldType.int)) ∈ zT := zT_in b768 rfl
theorem b769 : (Jvm.Cond.methodLink "DigitChipLaw" (67 : Nat) ({ cls := "DigitChipModel", name := "value", desc := "(I)J" } : Jvm.MethodName)) ∈ lw_tbl := zT_tb (List.mem_append_right tables_1_1 (List.mem_append_right tables_1_2 (List.mem_append_right tables_1_3 (List.mem_of_getElem? (i := 49) rfl))))
theorem q769 : (Jvm.Cond.methodLink "DigitChipLaw" (67 : Nat) ({ cls := "DigitChipModel", name := "value", desc := "(I)J" } : Jvm.MethodName)) ∈ zT := zT_in b769 rfl
theorem b770 : (Jvm.Cond.instanceMethod ({ cls := "DigitChipModel", name := "value", desc := "(I)J" } : Jvm.MethodName)) ∈ lw_tbl := zT_tb (List.mem_append_right tables_1_1 (List.mem_append_right tables_1_2 (List.mem_append_right tables_1_3 (List.mem_of_getElem? (i := 50) rfl))))
theorem q770 : (Jvm.Cond.instanceMethod ({ cls := "DigitChipModel", name := "value", desc := "(I)J" } : Jvm.MethodName)) ∈ zT := zT_in b770 rfl
theorem b771 : (Jvm.Cond.selects "DigitChipModel" ({ cls := "DigitChipModel", name := "value", desc := "(I)J" } : Jvm.MethodName) ({ cls := "DigitChipModel", name := "value", desc := "(I)J" } : Jvm.MethodName)) ∈ lw_tbl := zT_tb (List.mem_append_right tables_1_1 (List.mem_append_right tables_1_2 (List.mem_append_right tables_1_3 (List.mem_of_getElem? (i := 51) rfl))))
theorem q771 : (Jvm.Cond.selects "DigitChipModel" ({ cls := "DigitChipModel", name := "value", desc := "(I)J" } : Jvm.MethodName) ({ cls := "DigitChipModel", name := "value", desc := "(I)J" } : Jvm.MethodName)) ∈ zT := zT_in b771 rfl
theorem b772 : (Jvm.Cond.code ({ cls := "DigitChipModel", name := "value", desc := "(I)J" } : Jvm.MethodName) prog_7_method_31_code (2 : Nat) (Option.some Jvm.ClassFile.FieldType.long)) ∈ lw_tbl := zT_tb (List.mem_append_right tables_1_1 (List.mem_append_right tables_1_2 (List.mem_append_right tables_1_3 (List.mem_of_getElem? (i := 52) rfl))))
theorem q772 : (Jvm.Cond.code ({ cls := "DigitChipModel", name := "value", desc := "(I)J" } : Jvm.MethodName) prog_7_method_31_code (2 : Nat) (Option.some Jvm.ClassFile.FieldType.long)) ∈ zT := zT_in b772 rfl
theorem b773 : (Jvm.Cond.constantLong "DigitChipModel" (246 : Nat) (-1 : Int64)) ∈ lw_tbl := zT_tb (List.mem_append_right tables_1_1 (List.mem_append_right tables_1_2 (List.mem_append_right tables_1_3 (List.mem_of_getElem? (i := 53) rfl))))
theorem q773 : (Jvm.Cond.constantLong "DigitChipModel" (246 : Nat) (-1 : Int64)) ∈ zT := zT_in b773 rfl
theorem b774 : (Jvm.Cond.methodLink "DigitChipLaw" (74 : Nat) ({ cls := "DigitChipModel", name := "set", desc := "(IJ)Z" } : Jvm.MethodName)) ∈ lw_tbl := zT_tb (List.mem_append_right tables_1_1 (List.mem_append_right tables_1_2 (List.mem_append_right tables_1_3 (List.mem_of_getElem? (i := 54) rfl))))
theorem q774 : (Jvm.Cond.methodLink "DigitChipLaw" (74 : Nat) ({ cls := "DigitChipModel", name := "set", desc := "(IJ)Z" } : Jvm.MethodName)) ∈ zT := zT_in b774 rfl
theorem b775 : (Jvm.Cond.instanceMethod ({ cls := "DigitChipModel", name := "set", desc := "(IJ)Z" } : Jvm.MethodName)) ∈ lw_tbl := zT_tb (List.mem_append_right tables_1_1 (List.mem_append_right tables_1_2 (List.mem_append_right tables_1_3 (List.mem_of_getElem? (i := 55) rfl))))
theorem q775 : (Jvm.Cond.instanceMethod ({ cls := "DigitChipModel", name := "set", desc := "(IJ)Z" } : Jvm.MethodName)) ∈ zT := zT_in b775 rfl
theorem b776 : (Jvm.Cond.selects "DigitChipModel" ({ cls := "DigitChipModel", name := "set", desc := "(IJ)Z" } : Jvm.MethodName) ({ cls := "DigitChipModel", name := "set", desc := "(IJ)Z" } : Jvm.MethodName)) ∈ lw_tbl := zT_tb (List.mem_append_right tables_1_1 (List.mem_append_right tables_1_2 (List.mem_append_right tables_1_3 (List.mem_of_getElem? (i := 56) rfl))))
theorem q776 : (Jvm.Cond.selects "DigitChipModel" ({ cls := "DigitChipModel", name := "set", desc := "(IJ)Z" } : Jvm.MethodName) ({ cls := "DigitChipModel", name := "set", desc := "(IJ)Z" } : Jvm.MethodName)) ∈ zT := zT_in b776 rfl
theorem b777 : (Jvm.Cond.code ({ cls := "DigitChipModel", name := "set", desc := "(IJ)Z" } : Jvm.MethodName) prog_7_method_32_code (4 : Nat) (Option.some Jvm.ClassFile.FieldType.boolean)) ∈ lw_tbl := zT_tb (List.mem_append_right tables_1_1 (List.mem_append_right tables_1_2 (List.mem_append_right tables_1_3 (List.mem_of_getElem? (i := 57) rfl))))
theorem q777 : (Jvm.Cond.code ({ cls := "DigitChipModel", name := "set", desc := "(IJ)Z" } : Jvm.MethodName) prog_7_method_32_code (4 : Nat) (Option.some Jvm.ClassFile.FieldType.boolean)) ∈ zT := zT_in b777 rfl
theorem b778 : (Jvm.Cond.methodLink "DigitChipLaw" (78 : Nat) ({ cls := "DigitChipModel", name := "state", desc := "(I)I" } : Jvm.MethodName)) ∈ lw_tbl := zT_tb (List.mem_append_right tables_1_1 (List.mem_append_right tables_1_2 (List.mem_append_right tables_1_3 (List.mem_of_getElem? (i := 58) rfl))))
theorem q778 : (Jvm.Cond.methodLink "DigitChipLaw" (78 : Nat) ({ cls := "DigitChipModel", name := "state", desc := "(I)I" } : Jvm.MethodName)) ∈ zT := zT_in b778 rfl
theorem b779 : (Jvm.Cond.instanceMethod ({ cls := "DigitChipModel", name := "state", desc := "(I)I" } : Jvm.MethodName)) ∈ lw_tbl := zT_tb (List.mem_append_right tables_1_1 (List.mem_append_right tables_1_2 (List.mem_append_right tables_1_3 (List.mem_of_getElem? (i := 59) rfl))))
theorem q779 : (Jvm.Cond.instanceMethod ({ cls := "DigitChipModel", name := "state", desc := "(I)I" } : Jvm.MethodName)) ∈ zT := zT_in b779 rfl
theorem b780 : (Jvm.Cond.selects "DigitChipModel" ({ cls := "DigitChipModel", name := "state", desc := "(I)I" } : Jvm.MethodName) ({ cls := "DigitChipModel", name := "state", desc := "(I)I" } : Jvm.MethodName)) ∈ lw_tbl := zT_tb (List.mem_append_right tables_1_1 (List.mem_append_right tables_1_2 (List.mem_append_right tables_1_3 (List.mem_of_getElem? (i := 60) rfl))))
theorem q780 : (Jvm.Cond.selects "DigitChipModel" ({ cls := "DigitChipModel", name := "state", desc := "(I)I" } : Jvm.MethodName) ({ cls := "DigitChipModel", name := "state", desc := "(I)I" } : Jvm.MethodName)) ∈ zT := zT_in b780 rfl
theorem b781 : (Jvm.Cond.code ({ cls := "DigitChipModel", name := "state", desc := "(I)I" } : Jvm.MethodName) prog_7_method_33_code (2 : Nat) (Option.some Jvm.ClassFile.FieldType.int)) ∈ lw_tbl := zT_tb (List.mem_append_right tables_1_1 (List.mem_append_right tables_1_2 (List.mem_append_right tables_1_3 (List.mem_of_getElem? (i := 61) rfl))))
theorem q781 : (Jvm.Cond.code ({ cls := "DigitChipModel", name := "state", desc := "(I)I" } : Jvm.MethodName) prog_7_method_33_code (2 : Nat) (Option.some Jvm.ClassFile.FieldType.int)) ∈ zT := zT_in b781 rfl
theorem b782 : (Jvm.Cond.methodLink "DigitChipLaw" (82 : Nat) ({ cls := "DigitChipModel", name := "go", desc := "(I)Z" } : Jvm.MethodName)) ∈ lw_tbl := zT_tb (List.mem_append_right tables_1_1 (List.mem_append_right tables_1_2 (List.mem_append_right tables_1_3 (List.mem_of_getElem? (i := 62) rfl))))
theorem q782 : (Jvm.Cond.methodLink "DigitChipLaw" (82 : Nat) ({ cls := "DigitChipModel", name := "go", desc := "(I)Z" } : Jvm.MethodName)) ∈ zT := zT_in b782 rfl
theorem b783 : (Jvm.Cond.instanceMethod ({ cls := "DigitChipModel", name := "go", desc := "(I)Z" } : Jvm.MethodName)) ∈ lw_tbl := zT_tb (List.mem_append_right tables_1_1 (List.mem_append_right tables_1_2 (List.mem_append_right tables_1_3 (List.mem_of_getElem? (i := 63) rfl))))
theorem q783 : (Jvm.Cond.instanceMethod ({ cls := "DigitChipModel", name := "go", desc := "(I)Z" } : Jvm.MethodName)) ∈ zT := zT_in b783 rfl
theorem b784 : (Jvm.Cond.selects "DigitChipModel" ({ cls := "DigitChipModel", name := "go", desc := "(I)Z" } : Jvm.MethodName) ({ cls := "DigitChipModel", name := "go", desc := "(I)Z" } : Jvm.MethodName)) ∈ lw_tbl := zT_tb (List.mem_append_right tables_1_1 (List.mem_append_right tables_1_2 (List.mem_append_right tables_1_3 (List.mem_of_getElem? (i := 64) rfl))))
theorem q784 : (Jvm.Cond.selects "DigitChipModel" ({ cls := "DigitChipModel", name := "go", desc := "(I)Z" } : Jvm.MethodName) ({ cls := "DigitChipModel", name := "go", desc := "(I)Z" } : Jvm.MethodName)) ∈ zT := zT_in b784 rfl
theorem b785 : (Jvm.Cond.code ({ cls := "DigitChipModel", name := "go", desc := "(I)Z" } : Jvm.MethodName) prog_7_method_34_code (2 : Nat) (Option.some Jvm.ClassFile.FieldType.boolean)) ∈ lw_tbl := zT_tb (List.mem_append_right tables_1_1 (List.mem_append_right tables_1_2 (List.mem_append_right tables_1_3 (List.mem_of_getElem? (i := 65) rfl))))
theorem q785 : (Jvm.Cond.code ({ cls := "DigitChipModel", name := "go", desc := "(I)Z" } : Jvm.MethodName) prog_7_method_34_code (2 : Nat) (Option.some Jvm.ClassFile.FieldType.boolean)) ∈ zT := zT_in b785 rfl
theorem b786 : (Jvm.Cond.methodLink "DigitChipLaw" (86 : Nat) ({ cls := "DigitChipModel", name := "display", desc := "(I)I" } : Jvm.MethodName)) ∈ lw_tbl := zT_tb (List.mem_append_right tables_1_1 (List.mem_append_right tables_1_2 (List.mem_append_right tables_1_3 (List.mem_of_getElem? (i := 66) rfl))))
theorem q786 : (Jvm.Cond.methodLink "DigitChipLaw" (86 : Nat) ({ cls := "DigitChipModel", name := "display", desc := "(I)I" } : Jvm.MethodName)) ∈ zT := zT_in b786 rfl
theorem b787 : (Jvm.Cond.instanceMethod ({ cls := "DigitChipModel", name := "display", desc := "(I)I" } : Jvm.MethodName)) ∈ lw_tbl := zT_tb (List.mem_append_right tables_1_1 (List.mem_append_right tables_1_2 (List.mem_append_right tables_1_3 (List.mem_of_getElem? (i := 67) rfl))))
theorem q787 : (Jvm.Cond.instanceMethod ({ cls := "DigitChipModel", name := "display", desc := "(I)I" } : Jvm.MethodName)) ∈ zT := zT_in b787 rfl
theorem b788 : (Jvm.Cond.selects "DigitChipModel" ({ cls := "DigitChipModel", name := "display", desc := "(I)I" } : Jvm.MethodName) ({ cls := "DigitChipModel", name := "display", desc := "(I)I" } : Jvm.MethodName)) ∈ lw_tbl := zT_tb (List.mem_append_right tables_1_1 (List.mem_append_right tables_1_2 (List.mem_append_right tables_1_3 (List.mem_of_getElem? (i := 68) rfl))))
theorem q788 : (Jvm.Cond.selects "DigitChipModel" ({ cls := "DigitChipModel", name := "display", desc := "(I)I" } : Jvm.MethodName) ({ cls := "DigitChipModel", name := "display", desc := "(I)I" } : Jvm.MethodName)) ∈ zT := zT_in b788 rfl
theorem b789 : (Jvm.Cond.code ({ cls := "DigitChipModel", name := "display", desc := "(I)I" } : Jvm.MethodName) prog_7_method_36_code (4 : Nat) (Option.some Jvm.ClassFile.FieldType.int)) ∈ lw_tbl := zT_tb (List.mem_append_right tables_1_1 (List.mem_append_right tables_1_2 (List.mem_append_right tables_1_3 (List.mem_of_getElem? (i := 69) rfl))))
theorem q789 : (Jvm.Cond.code ({ cls := "DigitChipModel", name := "display", desc := "(I)I" } : Jvm.MethodName) prog_7_method_36_code (4 : Nat) (Option.some Jvm.ClassFile.FieldType.int)) ∈ zT := zT_in b789 rfl
theorem b790 : (Jvm.Cond.methodLink "DigitChipModel" (248 : Nat) ({ cls := "DigitChipModel", name := "digitOf", desc := "(II)I" } : Jvm.MethodName)) ∈ lw_tbl := zT_tb (List.mem_append_right tables_1_1 (List.mem_append_right tables_1_2 (List.mem_append_right tables_1_3 (List.mem_of_getElem? (i := 70) rfl))))
theorem q790 : (Jvm.Cond.methodLink "DigitChipModel" (248 : Nat) ({ cls := "DigitChipModel", name := "digitOf", desc := "(II)I" } : Jvm.MethodName)) ∈ zT := zT_in b790 rfl
theorem b791 : (Jvm.Cond.privateMethod ({ cls := "DigitChipModel", name := "digitOf", desc := "(II)I" } : Jvm.MethodName)) ∈ lw_tbl := zT_tb (List.mem_append_right tables_1_1 (List.mem_append_right tables_1_2 (List.mem_append_right tables_1_3 (List.mem_of_getElem? (i := 71) rfl))))
theorem b792 : (Jvm.Cond.instanceMethod ({ cls := "DigitChipModel", name := "digitOf", desc := "(II)I" } : Jvm.MethodName)) ∈ lw_tbl := zT_tb (List.mem_append_right tables_1_1 (List.mem_append_right tables_1_2 (List.mem_append_right tables_1_3 (List.mem_of_getElem? (i := 72) rfl))))
theorem q792 : (Jvm.Cond.instanceMethod ({ cls := "DigitChipModel", name := "digitOf", desc := "(II)I" } : Jvm.MethodName)) ∈ zT := zT_in b792 rfl
theorem b793 : (Jvm.Cond.code ({ cls := "DigitChipModel", name := "digitOf", desc := "(II)I" } : Jvm.MethodName) prog_7_method_35_code (3 : Nat) (Option.some Jvm.ClassFile.FieldType.int)) ∈ lw_tbl := zT_tb (List.mem_append_right tables_1_1 (List.mem_append_right tables_1_2 (List.mem_append_right tables_1_3 (List.mem_of_getElem? (i := 73) rfl))))
theorem q793 : (Jvm.Cond.code ({ cls := "DigitChipModel", name := "digitOf", desc := "(II)I" } : Jvm.MethodName) prog_7_method_35_code (3 : Nat) (Option.some Jvm.ClassFile.FieldType.int)) ∈ zT := zT_in b793 rfl
theorem b794 : (Jvm.Cond.constantLong "DigitChipLaw" (68 : Nat) (4294967295 : Int64)) ∈ lw_tbl := zT_tb (List.mem_append_right tables_1_1 (List.mem_append_right tables_1_2 (List.mem_append_right tables_1_3 (List.mem_of_getElem? (i := 74) rfl))))
theorem q794 : (Jvm.Cond.constantLong "DigitChipLaw" (68 : Nat) (4294967295 : Int64)) ∈ zT := zT_in b794 rfl
theorem b795 : (Jvm.Cond.sameMethod "java/lang/Throwable" "java/lang/Throwable" "fillInStackTrace" "(I)Ljava/lang/Throwable;") ∈ lw_tbl := zT_tb (List.mem_append_right tables_1_1 (List.mem_append_right tables_1_2 (List.mem_append_right tables_1_3 (List.mem_of_getElem? (i := 75) rfl))))
theorem b796 : (Jvm.Cond.fieldLink "java/lang/String" (9 : Nat) "java/lang/String" "value" "[B") ∈ lw_tbl := zT_tb (List.mem_append_right tables_1_1 (List.mem_append_right tables_1_2 (List.mem_append_right tables_1_3 (List.mem_of_getElem? (i := 76) rfl))))
theorem q796 : (Jvm.Cond.fieldLink "java/lang/String" (9 : Nat) "java/lang/String" "value" "[B") ∈ zT := zT_in b796 rfl
theorem b797 : (Jvm.Cond.fieldLink "java/lang/String" (15 : Nat) "java/lang/String" "coder" "B") ∈ lw_tbl := zT_tb (List.mem_append_right tables_1_1 (List.mem_append_right tables_1_2 (List.mem_append_right tables_1_3 (List.mem_of_getElem? (i := 77) rfl))))
theorem q797 : (Jvm.Cond.fieldLink "java/lang/String" (15 : Nat) "java/lang/String" "coder" "B") ∈ zT := zT_in b797 rfl
theorem b798 : (Jvm.Cond.selects "DigitChip" ({ cls := "DigitChip", name := "digitBeforePoint", desc := "()I" } : Jvm.MethodName) ({ cls := "DigitChip", name := "digitBeforePoint", desc := "()I" } : Jvm.MethodName)) ∈ lw_tbl := zT_pv (List.mem_map.mpr ⟨_, (List.mem_append_left (lw_privs_2 ++ lw_privs_3) (List.mem_of_getElem? (i := 0) rfl)), rfl⟩)
theorem q798 : (Jvm.Cond.selects "DigitChip" ({ cls := "DigitChip", name := "digitBeforePoint", desc := "()I" } : Jvm.MethodName) ({ cls := "DigitChip", name := "digitBeforePoint", desc := "()I" } : Jvm.MethodName)) ∈ zT := zT_in b798 rfl
theorem b799 : (Jvm.Cond.selects "DigitChip" ({ cls := "DigitChip", name := "codeOfDigit", desc := "(I)I" } : Jvm.MethodName) ({ cls := "DigitChip", name := "codeOfDigit", desc := "(I)I" } : Jvm.MethodName)) ∈ lw_tbl := zT_pv (List.mem_map.mpr ⟨_, (List.mem_append_left (lw_privs_2 ++ lw_privs_3) (List.mem_of_getElem? (i := 1) rfl)), rfl⟩)
theorem q799 : (Jvm.Cond.selects "DigitChip" ({ cls := "DigitChip", name := "codeOfDigit", desc := "(I)I" } : Jvm.MethodName) ({ cls := "DigitChip", name := "codeOfDigit", desc := "(I)I" } : Jvm.MethodName)) ∈ zT := zT_in b799 rfl
theorem b800 : (Jvm.Cond.selects "DigitChip$Assembler" ({ cls := "DigitChip$Assembler", name := "beginsName", desc := "(I)Z" } : Jvm.MethodName) ({ cls := "DigitChip$Assembler", name := "beginsName", desc := "(I)Z" } : Jvm.MethodName)) ∈ lw_tbl := zT_pv (List.mem_map.mpr ⟨_, (List.mem_append_left (lw_privs_2 ++ lw_privs_3) (List.mem_of_getElem? (i := 2) rfl)), rfl⟩)
theorem q800 : (Jvm.Cond.selects "DigitChip$Assembler" ({ cls := "DigitChip$Assembler", name := "beginsName", desc := "(I)Z" } : Jvm.MethodName) ({ cls := "DigitChip$Assembler", name := "beginsName", desc := "(I)Z" } : Jvm.MethodName)) ∈ zT := zT_in b800 rfl
theorem b801 : (Jvm.Cond.selects "DigitChip$Assembler" ({ cls := "DigitChip$Assembler", name := "endOfName", desc := "(I)I" } : Jvm.MethodName) ({ cls := "DigitChip$Assembler", name := "endOfName", desc := "(I)I" } : Jvm.MethodName)) ∈ lw_tbl := zT_pv (List.mem_map.mpr ⟨_, (List.mem_append_left (lw_privs_2 ++ lw_privs_3) (List.mem_of_getElem? (i := 3) rfl)), rfl⟩)
theorem q801 : (Jvm.Cond.selects "DigitChip$Assembler" ({ cls := "DigitChip$Assembler", name := "endOfName", desc := "(I)I" } : Jvm.MethodName) ({ cls := "DigitChip$Assembler", name := "endOfName", desc := "(I)I" } : Jvm.MethodName)) ∈ zT := zT_in b801 rfl
theorem b802 : (Jvm.Cond.selects "DigitChip$Assembler" ({ cls := "DigitChip$Assembler", name := "takeName", desc := "(II)Z" } : Jvm.MethodName) ({ cls := "DigitChip$Assembler", name := "takeName", desc := "(II)Z" } : Jvm.MethodName)) ∈ lw_tbl := zT_pv (List.mem_map.mpr ⟨_, (List.mem_append_left (lw_privs_2 ++ lw_privs_3) (List.mem_of_getElem? (i := 4) rfl)), rfl⟩)
theorem q802 : (Jvm.Cond.selects "DigitChip$Assembler" ({ cls := "DigitChip$Assembler", name := "takeName", desc := "(II)Z" } : Jvm.MethodName) ({ cls := "DigitChip$Assembler", name := "takeName", desc := "(II)Z" } : Jvm.MethodName)) ∈ zT := zT_in b802 rfl
theorem b803 : (Jvm.Cond.selects "DigitChip$Assembler" ({ cls := "DigitChip$Assembler", name := "findName", desc := "(Ljava/lang/String;II)I" } : Jvm.MethodName) ({ cls := "DigitChip$Assembler", name := "findName", desc := "(Ljava/lang/String;II)I" } : Jvm.MethodName)) ∈ lw_tbl := zT_pv (List.mem_map.mpr ⟨_, (List.mem_append_left (lw_privs_2 ++ lw_privs_3) (List.mem_of_getElem? (i := 5) rfl)), rfl⟩)
theorem q803 : (Jvm.Cond.selects "DigitChip$Assembler" ({ cls := "DigitChip$Assembler", name := "findName", desc := "(Ljava/lang/String;II)I" } : Jvm.MethodName) ({ cls := "DigitChip$Assembler", name := "findName", desc := "(Ljava/lang/String;II)I" } : Jvm.MethodName)) ∈ zT := zT_in b803 rfl
theorem b804 : (Jvm.Cond.selects "DigitChip$Assembler" ({ cls := "DigitChip$Assembler", name := "isName", desc := "(Ljava/lang/String;III)Z" } : Jvm.MethodName) ({ cls := "DigitChip$Assembler", name := "isName", desc := "(Ljava/lang/String;III)Z" } : Jvm.MethodName)) ∈ lw_tbl := zT_pv (List.mem_map.mpr ⟨_, (List.mem_append_left (lw_privs_2 ++ lw_privs_3) (List.mem_of_getElem? (i := 6) rfl)), rfl⟩)
theorem q804 : (Jvm.Cond.selects "DigitChip$Assembler" ({ cls := "DigitChip$Assembler", name := "isName", desc := "(Ljava/lang/String;III)Z" } : Jvm.MethodName) ({ cls := "DigitChip$Assembler", name := "isName", desc := "(Ljava/lang/String;III)Z" } : Jvm.MethodName)) ∈ zT := zT_in b804 rfl
theorem b805 : (Jvm.Cond.selects "DigitChip$Assembler" ({ cls := "DigitChip$Assembler", name := "takeLabel", desc := "(I)Z" } : Jvm.MethodName) ({ cls := "DigitChip$Assembler", name := "takeLabel", desc := "(I)Z" } : Jvm.MethodName)) ∈ lw_tbl := zT_pv (List.mem_map.mpr ⟨_, (List.mem_append_left (lw_privs_2 ++ lw_privs_3) (List.mem_of_getElem? (i := 7) rfl)), rfl⟩)
theorem q805 : (Jvm.Cond.selects "DigitChip$Assembler" ({ cls := "DigitChip$Assembler", name := "takeLabel", desc := "(I)Z" } : Jvm.MethodName) ({ cls := "DigitChip$Assembler", name := "takeLabel", desc := "(I)Z" } : Jvm.MethodName)) ∈ zT := zT_in b805 rfl
theorem b806 : (Jvm.Cond.selects "DigitChip$Assembler" ({ cls := "DigitChip$Assembler", name := "wordOfName", desc := "(II)I" } : Jvm.MethodName) ({ cls := "DigitChip$Assembler", name := "wordOfName", desc := "(II)I" } : Jvm.MethodName)) ∈ lw_tbl := zT_pv (List.mem_map.mpr ⟨_, (List.mem_append_left (lw_privs_2 ++ lw_privs_3) (List.mem_of_getElem? (i := 8) rfl)), rfl⟩)
theorem q806 : (Jvm.Cond.selects "DigitChip$Assembler" ({ cls := "DigitChip$Assembler", name := "wordOfName", desc := "(II)I" } : Jvm.MethodName) ({ cls := "DigitChip$Assembler", name := "wordOfName", desc := "(II)I" } : Jvm.MethodName)) ∈ zT := zT_in b806 rfl
theorem b807 : (Jvm.Cond.selects "DigitChip$Assembler" ({ cls := "DigitChip$Assembler", name := "fillInLabels", desc := "()V" } : Jvm.MethodName) ({ cls := "DigitChip$Assembler", name := "fillInLabels", desc := "()V" } : Jvm.MethodName)) ∈ lw_tbl := zT_pv (List.mem_map.mpr ⟨_, (List.mem_append_left (lw_privs_2 ++ lw_privs_3) (List.mem_of_getElem? (i := 9) rfl)), rfl⟩)
theorem q807 : (Jvm.Cond.selects "DigitChip$Assembler" ({ cls := "DigitChip$Assembler", name := "fillInLabels", desc := "()V" } : Jvm.MethodName) ({ cls := "DigitChip$Assembler", name := "fillInLabels", desc := "()V" } : Jvm.MethodName)) ∈ zT := zT_in b807 rfl
theorem b808 : (Jvm.Cond.selects "java/lang/Throwable" ({ cls := "java/lang/Throwable", name := "fillInStackTrace", desc := "(I)Ljava/lang/Throwable;" } : Jvm.MethodName) ({ cls := "java/lang/Throwable", name := "fillInStackTrace", desc := "(I)Ljava/lang/Throwable;" } : Jvm.MethodName)) ∈ lw_tbl := zT_pv (List.mem_map.mpr ⟨_, (List.mem_append_left (lw_privs_2 ++ lw_privs_3) (List.mem_of_getElem? (i := 10) rfl)), rfl⟩)
theorem q808 : (Jvm.Cond.selects "java/lang/Throwable" ({ cls := "java/lang/Throwable", name := "fillInStackTrace", desc := "(I)Ljava/lang/Throwable;" } : Jvm.MethodName) ({ cls := "java/lang/Throwable", name := "fillInStackTrace", desc := "(I)Ljava/lang/Throwable;" } : Jvm.MethodName)) ∈ zT := zT_in b808 rfl
theorem b809 : (Jvm.Cond.selects "DigitChip$Processor" ({ cls := "DigitChip$Processor", name := "doWord", desc := "(I)V" } : Jvm.MethodName) ({ cls := "DigitChip$Processor", name := "doWord", desc := "(I)V" } : Jvm.MethodName)) ∈ lw_tbl := zT_pv (List.mem_map.mpr ⟨_, (List.mem_append_left (lw_privs_2 ++ lw_privs_3) (List.mem_of_getElem? (i := 11) rfl)), rfl⟩)
theorem q809 : (Jvm.Cond.selects "DigitChip$Processor" ({ cls := "DigitChip$Processor", name := "doWord", desc := "(I)V" } : Jvm.MethodName) ({ cls := "DigitChip$Processor", name := "doWord", desc := "(I)V" } : Jvm.MethodName)) ∈ zT := zT_in b809 rfl
theorem b810 : (Jvm.Cond.selects "DigitChip$Processor" ({ cls := "DigitChip$Processor", name := "doPlain", desc := "(II)V" } : Jvm.MethodName) ({ cls := "DigitChip$Processor", name := "doPlain", desc := "(II)V" } : Jvm.MethodName)) ∈ lw_tbl := zT_pv (List.mem_map.mpr ⟨_, (List.mem_append_left (lw_privs_2 ++ lw_privs_3) (List.mem_of_getElem? (i := 12) rfl)), rfl⟩)
theorem q810 : (Jvm.Cond.selects "DigitChip$Processor" ({ cls := "DigitChip$Processor", name := "doPlain", desc := "(II)V" } : Jvm.MethodName) ({ cls := "DigitChip$Processor", name := "doPlain", desc := "(II)V" } : Jvm.MethodName)) ∈ zT := zT_in b810 rfl
theorem b811 : (Jvm.Cond.selects "DigitChip$Processor" ({ cls := "DigitChip$Processor", name := "setStatus", desc := "(I)V" } : Jvm.MethodName) ({ cls := "DigitChip$Processor", name := "setStatus", desc := "(I)V" } : Jvm.MethodName)) ∈ lw_tbl := zT_pv (List.mem_map.mpr ⟨_, (List.mem_append_left (lw_privs_2 ++ lw_privs_3) (List.mem_of_getElem? (i := 13) rfl)), rfl⟩)
theorem q811 : (Jvm.Cond.selects "DigitChip$Processor" ({ cls := "DigitChip$Processor", name := "setStatus", desc := "(I)V" } : Jvm.MethodName) ({ cls := "DigitChip$Processor", name := "setStatus", desc := "(I)V" } : Jvm.MethodName)) ∈ zT := zT_in b811 rfl
theorem b812 : (Jvm.Cond.selects "DigitChip$Processor" ({ cls := "DigitChip$Processor", name := "clearStatus", desc := "(I)V" } : Jvm.MethodName) ({ cls := "DigitChip$Processor", name := "clearStatus", desc := "(I)V" } : Jvm.MethodName)) ∈ lw_tbl := zT_pv (List.mem_map.mpr ⟨_, (List.mem_append_left (lw_privs_2 ++ lw_privs_3) (List.mem_of_getElem? (i := 14) rfl)), rfl⟩)
theorem q812 : (Jvm.Cond.selects "DigitChip$Processor" ({ cls := "DigitChip$Processor", name := "clearStatus", desc := "(I)V" } : Jvm.MethodName) ({ cls := "DigitChip$Processor", name := "clearStatus", desc := "(I)V" } : Jvm.MethodName)) ∈ zT := zT_in b812 rfl
theorem b813 : (Jvm.Cond.selects "DigitChip$Processor" ({ cls := "DigitChip$Processor", name := "hasStatus", desc := "(I)Z" } : Jvm.MethodName) ({ cls := "DigitChip$Processor", name := "hasStatus", desc := "(I)Z" } : Jvm.MethodName)) ∈ lw_tbl := zT_pv (List.mem_map.mpr ⟨_, (List.mem_append_left (lw_privs_2 ++ lw_privs_3) (List.mem_of_getElem? (i := 15) rfl)), rfl⟩)
theorem q813 : (Jvm.Cond.selects "DigitChip$Processor" ({ cls := "DigitChip$Processor", name := "hasStatus", desc := "(I)Z" } : Jvm.MethodName) ({ cls := "DigitChip$Processor", name := "hasStatus", desc := "(I)Z" } : Jvm.MethodName)) ∈ zT := zT_in b813 rfl
theorem b814 : (Jvm.Cond.selects "DigitChip$Processor" ({ cls := "DigitChip$Processor", name := "putDigit", desc := "(I)V" } : Jvm.MethodName) ({ cls := "DigitChip$Processor", name := "putDigit", desc := "(I)V" } : Jvm.MethodName)) ∈ lw_tbl := zT_pv (List.mem_map.mpr ⟨_, (List.mem_append_right lw_privs_1 (List.mem_append_left lw_privs_3 (List.mem_of_getElem? (i := 0) rfl))), rfl⟩)
theorem q814 : (Jvm.Cond.selects "DigitChip$Processor" ({ cls := "DigitChip$Processor", name := "putDigit", desc := "(I)V" } : Jvm.MethodName) ({ cls := "DigitChip$Processor", name := "putDigit", desc := "(I)V" } : Jvm.MethodName)) ∈ zT := zT_in b814 rfl
theorem b815 : (Jvm.Cond.selects "DigitChip$Registers" ({ cls := "DigitChip$Registers", name := "chooseDigits", desc := "(II)V" } : Jvm.MethodName) ({ cls := "DigitChip$Registers", name := "chooseDigits", desc := "(II)V" } : Jvm.MethodName)) ∈ lw_tbl := zT_pv (List.mem_map.mpr ⟨_, (List.mem_append_right lw_privs_1 (List.mem_append_left lw_privs_3 (List.mem_of_getElem? (i := 1) rfl))), rfl⟩)
theorem q815 : (Jvm.Cond.selects "DigitChip$Registers" ({ cls := "DigitChip$Registers", name := "chooseDigits", desc := "(II)V" } : Jvm.MethodName) ({ cls := "DigitChip$Registers", name := "chooseDigits", desc := "(II)V" } : Jvm.MethodName)) ∈ zT := zT_in b815 rfl
theorem b816 : (Jvm.Cond.selects "DigitChip$Processor" ({ cls := "DigitChip$Processor", name := "lowerPointer", desc := "()V" } : Jvm.MethodName) ({ cls := "DigitChip$Processor", name := "lowerPointer", desc := "()V" } : Jvm.MethodName)) ∈ lw_tbl := zT_pv (List.mem_map.mpr ⟨_, (List.mem_append_right lw_privs_1 (List.mem_append_left lw_privs_3 (List.mem_of_getElem? (i := 2) rfl))), rfl⟩)
theorem q816 : (Jvm.Cond.selects "DigitChip$Processor" ({ cls := "DigitChip$Processor", name := "lowerPointer", desc := "()V" } : Jvm.MethodName) ({ cls := "DigitChip$Processor", name := "lowerPointer", desc := "()V" } : Jvm.MethodName)) ∈ zT := zT_in b816 rfl
theorem b817 : (Jvm.Cond.selects "DigitChip$Processor" ({ cls := "DigitChip$Processor", name := "push", desc := "()V" } : Jvm.MethodName) ({ cls := "DigitChip$Processor", name := "push", desc := "()V" } : Jvm.MethodName)) ∈ lw_tbl := zT_pv (List.mem_map.mpr ⟨_, (List.mem_append_right lw_privs_1 (List.mem_append_left lw_privs_3 (List.mem_of_getElem? (i := 3) rfl))), rfl⟩)
theorem q817 : (Jvm.Cond.selects "DigitChip$Processor" ({ cls := "DigitChip$Processor", name := "push", desc := "()V" } : Jvm.MethodName) ({ cls := "DigitChip$Processor", name := "push", desc := "()V" } : Jvm.MethodName)) ∈ zT := zT_in b817 rfl
theorem b818 : (Jvm.Cond.selects "DigitChip$Processor" ({ cls := "DigitChip$Processor", name := "copy", desc := "(II)V" } : Jvm.MethodName) ({ cls := "DigitChip$Processor", name := "copy", desc := "(II)V" } : Jvm.MethodName)) ∈ lw_tbl := zT_pv (List.mem_map.mpr ⟨_, (List.mem_append_right lw_privs_1 (List.mem_append_left lw_privs_3 (List.mem_of_getElem? (i := 4) rfl))), rfl⟩)
theorem q818 : (Jvm.Cond.selects "DigitChip$Processor" ({ cls := "DigitChip$Processor", name := "copy", desc := "(II)V" } : Jvm.MethodName) ({ cls := "DigitChip$Processor", name := "copy", desc := "(II)V" } : Jvm.MethodName)) ∈ zT := zT_in b818 rfl
theorem b819 : (Jvm.Cond.selects "DigitChip$Processor" ({ cls := "DigitChip$Processor", name := "lowerStack", desc := "()V" } : Jvm.MethodName) ({ cls := "DigitChip$Processor", name := "lowerStack", desc := "()V" } : Jvm.MethodName)) ∈ lw_tbl := zT_pv (List.mem_map.mpr ⟨_, (List.mem_append_right lw_privs_1 (List.mem_append_left lw_privs_3 (List.mem_of_getElem? (i := 5) rfl))), rfl⟩)
theorem q819 : (Jvm.Cond.selects "DigitChip$Processor" ({ cls := "DigitChip$Processor", name := "lowerStack", desc := "()V" } : Jvm.MethodName) ({ cls := "DigitChip$Processor", name := "lowerStack", desc := "()V" } : Jvm.MethodName)) ∈ zT := zT_in b819 rfl
theorem b820 : (Jvm.Cond.selects "DigitChip$Processor" ({ cls := "DigitChip$Processor", name := "takeKey", desc := "()V" } : Jvm.MethodName) ({ cls := "DigitChip$Processor", name := "takeKey", desc := "()V" } : Jvm.MethodName)) ∈ lw_tbl := zT_pv (List.mem_map.mpr ⟨_, (List.mem_append_right lw_privs_1 (List.mem_append_left lw_privs_3 (List.mem_of_getElem? (i := 6) rfl))), rfl⟩)
theorem q820 : (Jvm.Cond.selects "DigitChip$Processor" ({ cls := "DigitChip$Processor", name := "takeKey", desc := "()V" } : Jvm.MethodName) ({ cls := "DigitChip$Processor", name := "takeKey", desc := "()V" } : Jvm.MethodName)) ∈ zT := zT_in b820 rfl
theorem b821 : (Jvm.Cond.selects "DigitChip$Processor" ({ cls := "DigitChip$Processor", name := "exchangeMemory", desc := "()V" } : Jvm.MethodName) ({ cls := "DigitChip$Processor", name := "exchangeMemory", desc := "()V" } : Jvm.MethodName)) ∈ lw_tbl := zT_pv (List.mem_map.mpr ⟨_, (List.mem_append_right lw_privs_1 (List.mem_append_left lw_privs_3 (List.mem_of_getElem? (i := 7) rfl))), rfl⟩)
theorem q821 : (Jvm.Cond.selects "DigitChip$Processor" ({ cls := "DigitChip$Processor", name := "exchangeMemory", desc := "()V" } : Jvm.MethodName) ({ cls := "DigitChip$Processor", name := "exchangeMemory", desc := "()V" } : Jvm.MethodName)) ∈ zT := zT_in b821 rfl
theorem b822 : (Jvm.Cond.selects "DigitChip$Processor" ({ cls := "DigitChip$Processor", name := "doFieldWork", desc := "(IJJJ)V" } : Jvm.MethodName) ({ cls := "DigitChip$Processor", name := "doFieldWork", desc := "(IJJJ)V" } : Jvm.MethodName)) ∈ lw_tbl := zT_pv (List.mem_map.mpr ⟨_, (List.mem_append_right lw_privs_1 (List.mem_append_left lw_privs_3 (List.mem_of_getElem? (i := 8) rfl))), rfl⟩)
theorem q822 : (Jvm.Cond.selects "DigitChip$Processor" ({ cls := "DigitChip$Processor", name := "doFieldWork", desc := "(IJJJ)V" } : Jvm.MethodName) ({ cls := "DigitChip$Processor", name := "doFieldWork", desc := "(IJJJ)V" } : Jvm.MethodName)) ∈ zT := zT_in b822 rfl
theorem b823 : (Jvm.Cond.selects "DigitChip$Processor" ({ cls := "DigitChip$Processor", name := "putResult", desc := "(IJ)V" } : Jvm.MethodName) ({ cls := "DigitChip$Processor", name := "putResult", desc := "(IJ)V" } : Jvm.MethodName)) ∈ lw_tbl := zT_pv (List.mem_map.mpr ⟨_, (List.mem_append_right lw_privs_1 (List.mem_append_left lw_privs_3 (List.mem_of_getElem? (i := 9) rfl))), rfl⟩)
theorem q823 : (Jvm.Cond.selects "DigitChip$Processor" ({ cls := "DigitChip$Processor", name := "putResult", desc := "(IJ)V" } : Jvm.MethodName) ({ cls := "DigitChip$Processor", name := "putResult", desc := "(IJ)V" } : Jvm.MethodName)) ∈ zT := zT_in b823 rfl
theorem b824 : (Jvm.Cond.selects "DigitChipModel" ({ cls := "DigitChipModel", name := "step", desc := "()V" } : Jvm.MethodName) ({ cls := "DigitChipModel", name := "step", desc := "()V" } : Jvm.MethodName)) ∈ lw_tbl := zT_pv (List.mem_map.mpr ⟨_, (List.mem_append_right lw_privs_1 (List.mem_append_left lw_privs_3 (List.mem_of_getElem? (i := 10) rfl))), rfl⟩)
theorem q824 : (Jvm.Cond.selects "DigitChipModel" ({ cls := "DigitChipModel", name := "step", desc := "()V" } : Jvm.MethodName) ({ cls := "DigitChipModel", name := "step", desc := "()V" } : Jvm.MethodName)) ∈ zT := zT_in b824 rfl
theorem b825 : (Jvm.Cond.selects "DigitChipModel" ({ cls := "DigitChipModel", name := "field", desc := "(I)V" } : Jvm.MethodName) ({ cls := "DigitChipModel", name := "field", desc := "(I)V" } : Jvm.MethodName)) ∈ lw_tbl := zT_pv (List.mem_map.mpr ⟨_, (List.mem_append_right lw_privs_1 (List.mem_append_left lw_privs_3 (List.mem_of_getElem? (i := 11) rfl))), rfl⟩)
theorem q825 : (Jvm.Cond.selects "DigitChipModel" ({ cls := "DigitChipModel", name := "field", desc := "(I)V" } : Jvm.MethodName) ({ cls := "DigitChipModel", name := "field", desc := "(I)V" } : Jvm.MethodName)) ∈ zT := zT_in b825 rfl
theorem b826 : (Jvm.Cond.selects "DigitChipModel" ({ cls := "DigitChipModel", name := "move", desc := "(I)V" } : Jvm.MethodName) ({ cls := "DigitChipModel", name := "move", desc := "(I)V" } : Jvm.MethodName)) ∈ lw_tbl := zT_pv (List.mem_map.mpr ⟨_, (List.mem_append_right lw_privs_1 (List.mem_append_left lw_privs_3 (List.mem_of_getElem? (i := 12) rfl))), rfl⟩)
theorem q826 : (Jvm.Cond.selects "DigitChipModel" ({ cls := "DigitChipModel", name := "move", desc := "(I)V" } : Jvm.MethodName) ({ cls := "DigitChipModel", name := "move", desc := "(I)V" } : Jvm.MethodName)) ∈ zT := zT_in b826 rfl
theorem b827 : (Jvm.Cond.selects "DigitChipModel" ({ cls := "DigitChipModel", name := "write", desc := "(IJ)V" } : Jvm.MethodName) ({ cls := "DigitChipModel", name := "write", desc := "(IJ)V" } : Jvm.MethodName)) ∈ lw_tbl := zT_pv (List.mem_map.mpr ⟨_, (List.mem_append_right lw_privs_1 (List.mem_append_left lw_privs_3 (List.mem_of_getElem? (i := 13) rfl))), rfl⟩)
theorem q827 : (Jvm.Cond.selects "DigitChipModel" ({ cls := "DigitChipModel", name := "write", desc := "(IJ)V" } : Jvm.MethodName) ({ cls := "DigitChipModel", name := "write", desc := "(IJ)V" } : Jvm.MethodName)) ∈ zT := zT_in b827 rfl
theorem b828 : (Jvm.Cond.selects "DigitChipModel" ({ cls := "DigitChipModel", name := "part", desc := "(I)J" } : Jvm.MethodName) ({ cls := "DigitChipModel", name := "part", desc := "(I)J" } : Jvm.MethodName)) ∈ lw_tbl := zT_pv (List.mem_map.mpr ⟨_, (List.mem_append_right lw_privs_1 (List.mem_append_left lw_privs_3 (List.mem_of_getElem? (i := 14) rfl))), rfl⟩)
theorem q828 : (Jvm.Cond.selects "DigitChipModel" ({ cls := "DigitChipModel", name := "part", desc := "(I)J" } : Jvm.MethodName) ({ cls := "DigitChipModel", name := "part", desc := "(I)J" } : Jvm.MethodName)) ∈ zT := zT_in b828 rfl
theorem b829 : (Jvm.Cond.selects "DigitChipModel" ({ cls := "DigitChipModel", name := "change", desc := "(II)V" } : Jvm.MethodName) ({ cls := "DigitChipModel", name := "change", desc := "(II)V" } : Jvm.MethodName)) ∈ lw_tbl := zT_pv (List.mem_map.mpr ⟨_, (List.mem_append_right lw_privs_1 (List.mem_append_left lw_privs_3 (List.mem_of_getElem? (i := 15) rfl))), rfl⟩)
theorem q829 : (Jvm.Cond.selects "DigitChipModel" ({ cls := "DigitChipModel", name := "change", desc := "(II)V" } : Jvm.MethodName) ({ cls := "DigitChipModel", name := "change", desc := "(II)V" } : Jvm.MethodName)) ∈ zT := zT_in b829 rfl
theorem b830 : (Jvm.Cond.selects "DigitChipModel" ({ cls := "DigitChipModel", name := "reckon", desc := "(I)V" } : Jvm.MethodName) ({ cls := "DigitChipModel", name := "reckon", desc := "(I)V" } : Jvm.MethodName)) ∈ lw_tbl := zT_pv (List.mem_map.mpr ⟨_, (List.mem_append_right lw_privs_1 (List.mem_append_right lw_privs_2 (List.mem_of_getElem? (i := 0) rfl))), rfl⟩)
theorem q830 : (Jvm.Cond.selects "DigitChipModel" ({ cls := "DigitChipModel", name := "reckon", desc := "(I)V" } : Jvm.MethodName) ({ cls := "DigitChipModel", name := "reckon", desc := "(I)V" } : Jvm.MethodName)) ∈ zT := zT_in b830 rfl
theorem b831 : (Jvm.Cond.selects "DigitChipModel" ({ cls := "DigitChipModel", name := "become", desc := "(IJ)V" } : Jvm.MethodName) ({ cls := "DigitChipModel", name := "become", desc := "(IJ)V" } : Jvm.MethodName)) ∈ lw_tbl := zT_pv (List.mem_map.mpr ⟨_, (List.mem_append_right lw_privs_1 (List.mem_append_right lw_privs_2 (List.mem_of_getElem? (i := 1) rfl))), rfl⟩)
theorem q831 : (Jvm.Cond.selects "DigitChipModel" ({ cls := "DigitChipModel", name := "become", desc := "(IJ)V" } : Jvm.MethodName) ({ cls := "DigitChipModel", name := "become", desc := "(IJ)V" } : Jvm.MethodName)) ∈ zT := zT_in b831 rfl
theorem b832 : (Jvm.Cond.selects "DigitChipModel" ({ cls := "DigitChipModel", name := "mark", desc := "(II)V" } : Jvm.MethodName) ({ cls := "DigitChipModel", name := "mark", desc := "(II)V" } : Jvm.MethodName)) ∈ lw_tbl := zT_pv (List.mem_map.mpr ⟨_, (List.mem_append_right lw_privs_1 (List.mem_append_right lw_privs_2 (List.mem_of_getElem? (i := 2) rfl))), rfl⟩)
theorem q832 : (Jvm.Cond.selects "DigitChipModel" ({ cls := "DigitChipModel", name := "mark", desc := "(II)V" } : Jvm.MethodName) ({ cls := "DigitChipModel", name := "mark", desc := "(II)V" } : Jvm.MethodName)) ∈ zT := zT_in b832 rfl
theorem b833 : (Jvm.Cond.selects "DigitChipModel" ({ cls := "DigitChipModel", name := "turn", desc := "(II)V" } : Jvm.MethodName) ({ cls := "DigitChipModel", name := "turn", desc := "(II)V" } : Jvm.MethodName)) ∈ lw_tbl := zT_pv (List.mem_map.mpr ⟨_, (List.mem_append_right lw_privs_1 (List.mem_append_right lw_privs_2 (List.mem_of_getElem? (i := 3) rfl))), rfl⟩)
theorem q833 : (Jvm.Cond.selects "DigitChipModel" ({ cls := "DigitChipModel", name := "turn", desc := "(II)V" } : Jvm.MethodName) ({ cls := "DigitChipModel", name := "turn", desc := "(II)V" } : Jvm.MethodName)) ∈ zT := zT_in b833 rfl
theorem b834 : (Jvm.Cond.selects "DigitChipModel" ({ cls := "DigitChipModel", name := "pick", desc := "(I)V" } : Jvm.MethodName) ({ cls := "DigitChipModel", name := "pick", desc := "(I)V" } : Jvm.MethodName)) ∈ lw_tbl := zT_pv (List.mem_map.mpr ⟨_, (List.mem_append_right lw_privs_1 (List.mem_append_right lw_privs_2 (List.mem_of_getElem? (i := 4) rfl))), rfl⟩)
theorem q834 : (Jvm.Cond.selects "DigitChipModel" ({ cls := "DigitChipModel", name := "pick", desc := "(I)V" } : Jvm.MethodName) ({ cls := "DigitChipModel", name := "pick", desc := "(I)V" } : Jvm.MethodName)) ∈ zT := zT_in b834 rfl
theorem b835 : (Jvm.Cond.selects "DigitChipModel" ({ cls := "DigitChipModel", name := "read", desc := "()I" } : Jvm.MethodName) ({ cls := "DigitChipModel", name := "read", desc := "()I" } : Jvm.MethodName)) ∈ lw_tbl := zT_pv (List.mem_map.mpr ⟨_, (List.mem_append_right lw_privs_1 (List.mem_append_right lw_privs_2 (List.mem_of_getElem? (i := 5) rfl))), rfl⟩)
theorem q835 : (Jvm.Cond.selects "DigitChipModel" ({ cls := "DigitChipModel", name := "read", desc := "()I" } : Jvm.MethodName) ({ cls := "DigitChipModel", name := "read", desc := "()I" } : Jvm.MethodName)) ∈ zT := zT_in b835 rfl
theorem b836 : (Jvm.Cond.selects "DigitChipModel" ({ cls := "DigitChipModel", name := "take", desc := "(II)Z" } : Jvm.MethodName) ({ cls := "DigitChipModel", name := "take", desc := "(II)Z" } : Jvm.MethodName)) ∈ lw_tbl := zT_pv (List.mem_map.mpr ⟨_, (List.mem_append_right lw_privs_1 (List.mem_append_right lw_privs_2 (List.mem_of_getElem? (i := 6) rfl))), rfl⟩)
theorem q836 : (Jvm.Cond.selects "DigitChipModel" ({ cls := "DigitChipModel", name := "take", desc := "(II)Z" } : Jvm.MethodName) ({ cls := "DigitChipModel", name := "take", desc := "(II)Z" } : Jvm.MethodName)) ∈ zT := zT_in b836 rfl
theorem b837 : (Jvm.Cond.selects "DigitChipModel" ({ cls := "DigitChipModel", name := "wordOf", desc := "(II)I" } : Jvm.MethodName) ({ cls := "DigitChipModel", name := "wordOf", desc := "(II)I" } : Jvm.MethodName)) ∈ lw_tbl := zT_pv (List.mem_map.mpr ⟨_, (List.mem_append_right lw_privs_1 (List.mem_append_right lw_privs_2 (List.mem_of_getElem? (i := 7) rfl))), rfl⟩)
theorem q837 : (Jvm.Cond.selects "DigitChipModel" ({ cls := "DigitChipModel", name := "wordOf", desc := "(II)I" } : Jvm.MethodName) ({ cls := "DigitChipModel", name := "wordOf", desc := "(II)I" } : Jvm.MethodName)) ∈ zT := zT_in b837 rfl
theorem b838 : (Jvm.Cond.selects "DigitChipModel" ({ cls := "DigitChipModel", name := "name", desc := "(III)J" } : Jvm.MethodName) ({ cls := "DigitChipModel", name := "name", desc := "(III)J" } : Jvm.MethodName)) ∈ lw_tbl := zT_pv (List.mem_map.mpr ⟨_, (List.mem_append_right lw_privs_1 (List.mem_append_right lw_privs_2 (List.mem_of_getElem? (i := 8) rfl))), rfl⟩)
theorem q838 : (Jvm.Cond.selects "DigitChipModel" ({ cls := "DigitChipModel", name := "name", desc := "(III)J" } : Jvm.MethodName) ({ cls := "DigitChipModel", name := "name", desc := "(III)J" } : Jvm.MethodName)) ∈ zT := zT_in b838 rfl
theorem b839 : (Jvm.Cond.selects "DigitChipModel" ({ cls := "DigitChipModel", name := "digitOf", desc := "(II)I" } : Jvm.MethodName) ({ cls := "DigitChipModel", name := "digitOf", desc := "(II)I" } : Jvm.MethodName)) ∈ lw_tbl := zT_pv (List.mem_map.mpr ⟨_, (List.mem_append_right lw_privs_1 (List.mem_append_right lw_privs_2 (List.mem_of_getElem? (i := 9) rfl))), rfl⟩)
theorem q839 : (Jvm.Cond.selects "DigitChipModel" ({ cls := "DigitChipModel", name := "digitOf", desc := "(II)I" } : Jvm.MethodName) ({ cls := "DigitChipModel", name := "digitOf", desc := "(II)I" } : Jvm.MethodName)) ∈ zT := zT_in b839 rfl
theorem inAs : ∀ w ∈ u_ws RAs TAs 8, w ∈ zT := List.forall_mem_cons.mpr ⟨q54, List.forall_mem_cons.mpr ⟨q56, List.forall_mem_cons.mpr ⟨q58, List.forall_mem_cons.mpr ⟨q60, List.forall_mem_cons.mpr ⟨q62, List.forall_mem_cons.mpr ⟨q64, List.forall_mem_cons.mpr ⟨q66, List.forall_mem_cons.mpr ⟨q68, fun _ h => absurd h List.not_mem_nil⟩⟩⟩⟩⟩⟩⟩⟩
theorem inPr : ∀ w ∈ u_ws RPr TPr 9, w ∈ zT := List.forall_mem_cons.mpr ⟨q131, List.forall_mem_cons.mpr ⟨q133, List.forall_mem_cons.mpr ⟨q135, List.forall_mem_cons.mpr ⟨q137, List.forall_mem_cons.mpr ⟨q139, List.forall_mem_cons.mpr ⟨q141, List.forall_mem_cons.mpr ⟨q143, List.forall_mem_cons.mpr ⟨q145, List.forall_mem_cons.mpr ⟨q147, fun _ h => absurd h List.not_mem_nil⟩⟩⟩⟩⟩⟩⟩⟩⟩
theorem inRe : ∀ w ∈ u_ws RRe TRe 3, w ∈ zT := List.forall_mem_cons.mpr ⟨q92, List.forall_mem_cons.mpr ⟨q94, List.forall_mem_cons.mpr ⟨q96, fun _ h => absurd h List.not_mem_nil⟩⟩⟩
theorem inWa : ∀ w ∈ u_ws RWa TWa 2, w ∈ zT := List.forall_mem_cons.mpr ⟨q109, List.forall_mem_cons.mpr ⟨q111, fun _ h => absurd h List.not_mem_nil⟩⟩
theorem inCh : ∀ w ∈ u_ws RCh TCh 2, w ∈ zT := List.forall_mem_cons.mpr ⟨q152, List.forall_mem_cons.mpr ⟨q154, fun _ h => absurd h List.not_mem_nil⟩⟩
theorem inMo : ∀ w ∈ u_ws RMo TMo 21, w ∈ zT := List.forall_mem_cons.mpr ⟨q567, List.forall_mem_cons.mpr ⟨q569, List.forall_mem_cons.mpr ⟨q571, List.forall_mem_cons.mpr ⟨q573, List.forall_mem_cons.mpr ⟨q575, List.forall_mem_cons.mpr ⟨q577, List.forall_mem_cons.mpr ⟨q579, List.forall_mem_cons.mpr ⟨q581, List.forall_mem_cons.mpr ⟨q583, List.forall_mem_cons.mpr ⟨q585, List.forall_mem_cons.mpr ⟨q587, List.forall_mem_cons.mpr ⟨q589, List.forall_mem_cons.mpr ⟨q591, List.forall_mem_cons.mpr ⟨q593, List.forall_mem_cons.mpr ⟨q595, List.forall_mem_cons.mpr ⟨q597, List.forall_mem_cons.mpr ⟨q599, List.forall_mem_cons.mpr ⟨q601, List.forall_mem_cons.mpr ⟨q603, List.forall_mem_cons.mpr ⟨q605, List.forall_mem_cons.mpr ⟨q607, fun _ h => absurd h List.not_mem_nil⟩⟩⟩⟩⟩⟩⟩⟩⟩⟩⟩⟩⟩⟩⟩⟩⟩⟩⟩⟩⟩
end
section
theorem d_Ar_fill_0 : decode c_Ar_fill 0 = .ok (.iconst 0, 1) := by decide +kernel
theorem d_Ar_fill_1 : decode c_Ar_fill 1 = .ok (.istore_n 2, 1) := by decide +kernel
theorem d_Ar_fill_2 : decode c_Ar_fill 2 = .ok (.aload_n 0, 1) := by decide +kernel
theorem d_Ar_fill_3 : decode c_Ar_fill 3 = .ok (.arraylength, 1) := by decide +kernel
theorem d_Ar_fill_4 : decode c_Ar_fill 4 = .ok (.istore_n 3, 1) := by decide +kernel
theorem d_Ar_fill_5 : decode c_Ar_fill 5 = .ok (.iload_n 2, 1) := by decide +kernel
theorem d_Ar_fill_6 : decode c_Ar_fill 6 = .ok (.iload_n 3, 1) := by decide +kernel
theorem d_Ar_fill_7 : decode c_Ar_fill 7 = .ok (.if_icmp .ge 13, 3) := by decide +kernel
theorem d_Ar_fill_10 : decode c_Ar_fill 10 = .ok (.aload_n 0, 1) := by decide +kernel
theorem d_Ar_fill_11 : decode c_Ar_fill 11 = .ok (.iload_n 2, 1) := by decide +kernel
theorem d_Ar_fill_12 : decode c_Ar_fill 12 = .ok (.iload_n 1, 1) := by decide +kernel
theorem d_Ar_fill_13 : decode c_Ar_fill 13 = .ok (.iastore, 1) := by decide +kernel
theorem d_Ar_fill_14 : decode c_Ar_fill 14 = .ok (.iinc 2 1, 3) := by decide +kernel
theorem d_Ar_fill_17 : decode c_Ar_fill 17 = .ok (.goto (-12), 3) := by decide +kernel
theorem d_Ar_fill_20 : decode c_Ar_fill 20 = .ok (.return_, 1) := by decide +kernel
end
section
theorem d_As_init_0 : decode c_As_init 0 = .ok (.aload_n 0, 1) := by decide +kernel
theorem d_As_init_1 : decode c_As_init 1 = .ok (.invokespecial 3, 3) := by decide +kernel
theorem d_As_init_4 : decode c_As_init 4 = .ok (.aload_n 0, 1) := by decide +kernel
theorem d_As_init_5 : decode c_As_init 5 = .ok (.sipush 240, 3) := by decide +kernel
theorem d_As_init_8 : decode c_As_init 8 = .ok (.newarray .char, 2) := by decide +kernel
theorem d_As_init_10 : decode c_As_init 10 = .ok (.putfield 11, 3) := by decide +kernel
theorem d_As_init_13 : decode c_As_init 13 = .ok (.aload_n 0, 1) := by decide +kernel
theorem d_As_init_14 : decode c_As_init 14 = .ok (.iconst 0, 1) := by decide +kernel
theorem d_As_init_15 : decode c_As_init 15 = .ok (.putfield 15, 3) := by decide +kernel
theorem d_As_init_18 : decode c_As_init 18 = .ok (.aload_n 0, 1) := by decide +kernel
theorem d_As_init_19 : decode c_As_init 19 = .ok (.ldc 19, 2) := by decide +kernel
theorem d_As_init_21 : decode c_As_init 21 = .ok (.invokevirtual 21, 3) := by decide +kernel
theorem d_As_init_24 : decode c_As_init 24 = .ok (.newarray .int, 2) := by decide +kernel
theorem d_As_init_26 : decode c_As_init 26 = .ok (.putfield 26, 3) := by decide +kernel
theorem d_As_init_29 : decode c_As_init 29 = .ok (.aload_n 0, 1) := by decide +kernel
theorem d_As_init_30 : decode c_As_init 30 = .ok (.bipush 64, 2) := by decide +kernel
theorem d_As_init_32 : decode c_As_init 32 = .ok (.newarray .int, 2) := by decide +kernel
theorem d_As_init_34 : decode c_As_init 34 = .ok (.putfield 30, 3) := by decide +kernel
theorem d_As_init_37 : decode c_As_init 37 = .ok (.aload_n 0, 1) := by decide +kernel
theorem d_As_init_38 : decode c_As_init 38 = .ok (.iconst 0, 1) := by decide +kernel
theorem d_As_init_39 : decode c_As_init 39 = .ok (.putfield 33, 3) := by decide +kernel
theorem d_As_init_42 : decode c_As_init 42 = .ok (.aload_n 0, 1) := by decide +kernel
theorem d_As_init_43 : decode c_As_init 43 = .ok (.bipush 64, 2) := by decide +kernel
theorem d_As_init_45 : decode c_As_init 45 = .ok (.newarray .int, 2) := by decide +kernel
theorem d_As_init_47 : decode c_As_init 47 = .ok (.putfield 36, 3) := by decide +kernel
theorem d_As_init_50 : decode c_As_init 50 = .ok (.aload_n 0, 1) := by decide +kernel
theorem d_As_init_51 : decode c_As_init 51 = .ok (.iconst 0, 1) := by decide +kernel
theorem d_As_init_52 : decode c_As_init 52 = .ok (.putfield 39, 3) := by decide +kernel
theorem d_As_init_55 : decode c_As_init 55 = .ok (.aload_n 0, 1) := by decide +kernel
theorem d_As_init_56 : decode c_As_init 56 = .ok (.iconst (-1), 1) := by decide +kernel
theorem d_As_init_57 : decode c_As_init 57 = .ok (.putfield 42, 3) := by decide +kernel
theorem d_As_init_60 : decode c_As_init 60 = .ok (.return_, 1) := by decide +kernel
theorem d_As_append_0 : decode c_As_append 0 = .ok (.iload_n 1, 1) := by decide +kernel
theorem d_As_append_1 : decode c_As_append 1 = .ok (.bipush 32, 2) := by decide +kernel
theorem d_As_append_3 : decode c_As_append 3 = .ok (.if_icmp .lt 19, 3) := by decide +kernel
theorem d_As_append_6 : decode c_As_append 6 = .ok (.iload_n 1, 1) := by decide +kernel
theorem d_As_append_7 : decode c_As_append 7 = .ok (.bipush 126, 2) := by decide +kernel
theorem d_As_append_9 : decode c_As_append 9 = .ok (.if_icmp .gt 13, 3) := by decide +kernel
theorem d_As_append_12 : decode c_As_append 12 = .ok (.aload_n 0, 1) := by decide +kernel
theorem d_As_append_13 : decode c_As_append 13 = .ok (.getfield 15, 3) := by decide +kernel
theorem d_As_append_16 : decode c_As_append 16 = .ok (.sipush 240, 3) := by decide +kernel
theorem d_As_append_19 : decode c_As_append 19 = .ok (.if_icmp .lt 5, 3) := by decide +kernel
theorem d_As_append_22 : decode c_As_append 22 = .ok (.iconst 0, 1) := by decide +kernel
theorem d_As_append_23 : decode c_As_append 23 = .ok (.ireturn, 1) := by decide +kernel
theorem d_As_append_24 : decode c_As_append 24 = .ok (.aload_n 0, 1) := by decide +kernel
theorem d_As_append_25 : decode c_As_append 25 = .ok (.getfield 11, 3) := by decide +kernel
theorem d_As_append_28 : decode c_As_append 28 = .ok (.aload_n 0, 1) := by decide +kernel
theorem d_As_append_29 : decode c_As_append 29 = .ok (.getfield 15, 3) := by decide +kernel
theorem d_As_append_32 : decode c_As_append 32 = .ok (.iload_n 1, 1) := by decide +kernel
theorem d_As_append_33 : decode c_As_append 33 = .ok (.castore, 1) := by decide +kernel
theorem d_As_append_34 : decode c_As_append 34 = .ok (.aload_n 0, 1) := by decide +kernel
theorem d_As_append_35 : decode c_As_append 35 = .ok (.dup, 1) := by decide +kernel
theorem d_As_append_36 : decode c_As_append 36 = .ok (.getfield 15, 3) := by decide +kernel
theorem d_As_append_39 : decode c_As_append 39 = .ok (.iconst 1, 1) := by decide +kernel
theorem d_As_append_40 : decode c_As_append 40 = .ok (.iadd, 1) := by decide +kernel
theorem d_As_append_41 : decode c_As_append 41 = .ok (.putfield 15, 3) := by decide +kernel
theorem d_As_append_44 : decode c_As_append 44 = .ok (.iconst 1, 1) := by decide +kernel
theorem d_As_append_45 : decode c_As_append 45 = .ok (.ireturn, 1) := by decide +kernel
theorem d_As_takeText_0 : decode c_As_takeText 0 = .ok (.aload_n 0, 1) := by decide +kernel
theorem d_As_takeText_1 : decode c_As_takeText 1 = .ok (.iconst 0, 1) := by decide +kernel
theorem d_As_takeText_2 : decode c_As_takeText 2 = .ok (.putfield 39, 3) := by decide +kernel
theorem d_As_takeText_5 : decode c_As_takeText 5 = .ok (.aload_n 0, 1) := by decide +kernel
theorem d_As_takeText_6 : decode c_As_takeText 6 = .ok (.iconst (-1), 1) := by decide +kernel
theorem d_As_takeText_7 : decode c_As_takeText 7 = .ok (.putfield 42, 3) := by decide +kernel
theorem d_As_takeText_10 : decode c_As_takeText 10 = .ok (.aload_n 0, 1) := by decide +kernel
theorem d_As_takeText_11 : decode c_As_takeText 11 = .ok (.getfield 26, 3) := by decide +kernel
theorem d_As_takeText_14 : decode c_As_takeText 14 = .ok (.iconst (-1), 1) := by decide +kernel
theorem d_As_takeText_15 : decode c_As_takeText 15 = .ok (.invokestatic 45, 3) := by decide +kernel
theorem d_As_takeText_18 : decode c_As_takeText 18 = .ok (.iconst 0, 1) := by decide +kernel
theorem d_As_takeText_19 : decode c_As_takeText 19 = .ok (.istore_n 1, 1) := by decide +kernel
theorem d_As_takeText_20 : decode c_As_takeText 20 = .ok (.iload_n 1, 1) := by decide +kernel
theorem d_As_takeText_21 : decode c_As_takeText 21 = .ok (.aload_n 0, 1) := by decide +kernel
theorem d_As_takeText_22 : decode c_As_takeText 22 = .ok (.getfield 15, 3) := by decide +kernel
theorem d_As_takeText_25 : decode c_As_takeText 25 = .ok (.if_icmp .ge 43, 3) := by decide +kernel
theorem d_As_takeText_28 : decode c_As_takeText 28 = .ok (.aload_n 0, 1) := by decide +kernel
theorem d_As_takeText_29 : decode c_As_takeText 29 = .ok (.getfield 42, 3) := by decide +kernel
theorem d_As_takeText_32 : decode c_As_takeText 32 = .ok (.iconst (-1), 1) := by decide +kernel
theorem d_As_takeText_33 : decode c_As_takeText 33 = .ok (.if_icmp .ne 35, 3) := by decide +kernel
theorem d_As_takeText_36 : decode c_As_takeText 36 = .ok (.aload_n 0, 1) := by decide +kernel
theorem d_As_takeText_37 : decode c_As_takeText 37 = .ok (.iload_n 1, 1) := by decide +kernel
theorem d_As_takeText_38 : decode c_As_takeText 38 = .ok (.invokevirtual 51, 3) := by decide +kernel
theorem d_As_takeText_41 : decode c_As_takeText 41 = .ok (.ifCond .eq 21, 3) := by decide +kernel
theorem d_As_takeText_44 : decode c_As_takeText 44 = .ok (.aload_n 0, 1) := by decide +kernel
theorem d_As_takeText_45 : decode c_As_takeText 45 = .ok (.iload_n 1, 1) := by decide +kernel
theorem d_As_takeText_46 : decode c_As_takeText 46 = .ok (.aload_n 0, 1) := by decide +kernel
theorem d_As_takeText_47 : decode c_As_takeText 47 = .ok (.iload_n 1, 1) := by decide +kernel
theorem d_As_takeText_48 : decode c_As_takeText 48 = .ok (.invokevirtual 55, 3) := by decide +kernel
theorem d_As_takeText_51 : decode c_As_takeText 51 = .ok (.invokevirtual 59, 3) := by decide +kernel
theorem d_As_takeText_54 : decode c_As_takeText 54 = .ok (.ifCond .ne 8, 3) := by decide +kernel
theorem d_As_takeText_57 : decode c_As_takeText 57 = .ok (.aload_n 0, 1) := by decide +kernel
theorem d_As_takeText_58 : decode c_As_takeText 58 = .ok (.iload_n 1, 1) := by decide +kernel
theorem d_As_takeText_59 : decode c_As_takeText 59 = .ok (.putfield 42, 3) := by decide +kernel
theorem d_As_takeText_62 : decode c_As_takeText 62 = .ok (.iinc 1 1, 3) := by decide +kernel
theorem d_As_takeText_65 : decode c_As_takeText 65 = .ok (.goto (-45), 3) := by decide +kernel
theorem d_As_takeText_68 : decode c_As_takeText 68 = .ok (.aload_n 0, 1) := by decide +kernel
theorem d_As_takeText_69 : decode c_As_takeText 69 = .ok (.invokevirtual 63, 3) := by decide +kernel
theorem d_As_takeText_72 : decode c_As_takeText 72 = .ok (.aload_n 0, 1) := by decide +kernel
theorem d_As_takeText_73 : decode c_As_takeText 73 = .ok (.iconst 0, 1) := by decide +kernel
theorem d_As_takeText_74 : decode c_As_takeText 74 = .ok (.putfield 15, 3) := by decide +kernel
theorem d_As_takeText_77 : decode c_As_takeText 77 = .ok (.aload_n 0, 1) := by decide +kernel
theorem d_As_takeText_78 : decode c_As_takeText 78 = .ok (.getfield 42, 3) := by decide +kernel
theorem d_As_takeText_81 : decode c_As_takeText 81 = .ok (.iconst (-1), 1) := by decide +kernel
theorem d_As_takeText_82 : decode c_As_takeText 82 = .ok (.if_icmp .ne 7, 3) := by decide +kernel
theorem d_As_takeText_85 : decode c_As_takeText 85 = .ok (.iconst 1, 1) := by decide +kernel
theorem d_As_takeText_86 : decode c_As_takeText 86 = .ok (.goto 4, 3) := by decide +kernel
theorem d_As_takeText_89 : decode c_As_takeText 89 = .ok (.iconst 0, 1) := by decide +kernel
theorem d_As_takeText_90 : decode c_As_takeText 90 = .ok (.ireturn, 1) := by decide +kernel
theorem d_As_beginsName_0 : decode c_As_beginsName 0 = .ok (.aload_n 0, 1) := by decide +kernel
theorem d_As_beginsName_1 : decode c_As_beginsName 1 = .ok (.getfield 11, 3) := by decide +kernel
theorem d_As_beginsName_4 : decode c_As_beginsName 4 = .ok (.iload_n 1, 1) := by decide +kernel
theorem d_As_beginsName_5 : decode c_As_beginsName 5 = .ok (.caload, 1) := by decide +kernel
theorem d_As_beginsName_6 : decode c_As_beginsName 6 = .ok (.bipush 32, 2) := by decide +kernel
theorem d_As_beginsName_8 : decode c_As_beginsName 8 = .ok (.if_icmp .eq 24, 3) := by decide +kernel
theorem d_As_beginsName_11 : decode c_As_beginsName 11 = .ok (.iload_n 1, 1) := by decide +kernel
theorem d_As_beginsName_12 : decode c_As_beginsName 12 = .ok (.ifCond .eq 16, 3) := by decide +kernel
theorem d_As_beginsName_15 : decode c_As_beginsName 15 = .ok (.aload_n 0, 1) := by decide +kernel
theorem d_As_beginsName_16 : decode c_As_beginsName 16 = .ok (.getfield 11, 3) := by decide +kernel
theorem d_As_beginsName_19 : decode c_As_beginsName 19 = .ok (.iload_n 1, 1) := by decide +kernel
theorem d_As_beginsName_20 : decode c_As_beginsName 20 = .ok (.iconst 1, 1) := by decide +kernel
theorem d_As_beginsName_21 : decode c_As_beginsName 21 = .ok (.isub, 1) := by decide +kernel
theorem d_As_beginsName_22 : decode c_As_beginsName 22 = .ok (.caload, 1) := by decide +kernel
theorem d_As_beginsName_23 : decode c_As_beginsName 23 = .ok (.bipush 32, 2) := by decide +kernel
theorem d_As_beginsName_25 : decode c_As_beginsName 25 = .ok (.if_icmp .ne 7, 3) := by decide +kernel
theorem d_As_beginsName_28 : decode c_As_beginsName 28 = .ok (.iconst 1, 1) := by decide +kernel
theorem d_As_beginsName_29 : decode c_As_beginsName 29 = .ok (.goto 4, 3) := by decide +kernel
theorem d_As_beginsName_32 : decode c_As_beginsName 32 = .ok (.iconst 0, 1) := by decide +kernel
theorem d_As_beginsName_33 : decode c_As_beginsName 33 = .ok (.ireturn, 1) := by decide +kernel
theorem d_As_endOfName_0 : decode c_As_endOfName 0 = .ok (.iload_n 1, 1) := by decide +kernel
theorem d_As_endOfName_1 : decode c_As_endOfName 1 = .ok (.istore_n 2, 1) := by decide +kernel
theorem d_As_endOfName_2 : decode c_As_endOfName 2 = .ok (.iload_n 2, 1) := by decide +kernel
theorem d_As_endOfName_3 : decode c_As_endOfName 3 = .ok (.aload_n 0, 1) := by decide +kernel
theorem d_As_endOfName_4 : decode c_As_endOfName 4 = .ok (.getfield 15, 3) := by decide +kernel
theorem d_As_endOfName_7 : decode c_As_endOfName 7 = .ok (.if_icmp .ge 20, 3) := by decide +kernel
theorem d_As_endOfName_10 : decode c_As_endOfName 10 = .ok (.aload_n 0, 1) := by decide +kernel
theorem d_As_endOfName_11 : decode c_As_endOfName 11 = .ok (.getfield 11, 3) := by decide +kernel
theorem d_As_endOfName_14 : decode c_As_endOfName 14 = .ok (.iload_n 2, 1) := by decide +kernel
theorem d_As_endOfName_15 : decode c_As_endOfName 15 = .ok (.caload, 1) := by decide +kernel
theorem d_As_endOfName_16 : decode c_As_endOfName 16 = .ok (.bipush 32, 2) := by decide +kernel
theorem d_As_endOfName_18 : decode c_As_endOfName 18 = .ok (.if_icmp .eq 9, 3) := by decide +kernel
theorem d_As_endOfName_21 : decode c_As_endOfName 21 = .ok (.iinc 2 1, 3) := by decide +kernel
theorem d_As_endOfName_24 : decode c_As_endOfName 24 = .ok (.goto (-22), 3) := by decide +kernel
theorem d_As_endOfName_27 : decode c_As_endOfName 27 = .ok (.iload_n 2, 1) := by decide +kernel
theorem d_As_endOfName_28 : decode c_As_endOfName 28 = .ok (.ireturn, 1) := by decide +kernel
theorem d_As_takeName_0 : decode c_As_takeName 0 = .ok (.aload_n 0, 1) := by decide +kernel
theorem d_As_takeName_1 : decode c_As_takeName 1 = .ok (.ldc 66, 2) := by decide +kernel
theorem d_As_takeName_3 : decode c_As_takeName 3 = .ok (.iload_n 1, 1) := by decide +kernel
theorem d_As_takeName_4 : decode c_As_takeName 4 = .ok (.iload_n 2, 1) := by decide +kernel
theorem d_As_takeName_5 : decode c_As_takeName 5 = .ok (.invokevirtual 68, 3) := by decide +kernel
theorem d_As_takeName_8 : decode c_As_takeName 8 = .ok (.iconst (-1), 1) := by decide +kernel
theorem d_As_takeName_9 : decode c_As_takeName 9 = .ok (.if_icmp .eq 12, 3) := by decide +kernel
theorem d_As_takeName_12 : decode c_As_takeName 12 = .ok (.aload_n 0, 1) := by decide +kernel
theorem d_As_takeName_13 : decode c_As_takeName 13 = .ok (.aload_n 0, 1) := by decide +kernel
theorem d_As_takeName_14 : decode c_As_takeName 14 = .ok (.getfield 33, 3) := by decide +kernel
theorem d_As_takeName_17 : decode c_As_takeName 17 = .ok (.invokevirtual 72, 3) := by decide +kernel
theorem d_As_takeName_20 : decode c_As_takeName 20 = .ok (.ireturn, 1) := by decide +kernel
theorem d_As_takeName_21 : decode c_As_takeName 21 = .ok (.aload_n 0, 1) := by decide +kernel
theorem d_As_takeName_22 : decode c_As_takeName 22 = .ok (.iload_n 1, 1) := by decide +kernel
theorem d_As_takeName_23 : decode c_As_takeName 23 = .ok (.iload_n 2, 1) := by decide +kernel
theorem d_As_takeName_24 : decode c_As_takeName 24 = .ok (.invokevirtual 75, 3) := by decide +kernel
theorem d_As_takeName_27 : decode c_As_takeName 27 = .ok (.istore_n 3, 1) := by decide +kernel
theorem d_As_takeName_28 : decode c_As_takeName 28 = .ok (.iload_n 3, 1) := by decide +kernel
theorem d_As_takeName_29 : decode c_As_takeName 29 = .ok (.iconst (-1), 1) := by decide +kernel
theorem d_As_takeName_30 : decode c_As_takeName 30 = .ok (.if_icmp .eq 12, 3) := by decide +kernel
theorem d_As_takeName_33 : decode c_As_takeName 33 = .ok (.aload_n 0, 1) := by decide +kernel
theorem d_As_takeName_34 : decode c_As_takeName 34 = .ok (.getfield 39, 3) := by decide +kernel
theorem d_As_takeName_37 : decode c_As_takeName 37 = .ok (.bipush 64, 2) := by decide +kernel
theorem d_As_takeName_39 : decode c_As_takeName 39 = .ok (.if_icmp .lt 5, 3) := by decide +kernel
theorem d_As_takeName_42 : decode c_As_takeName 42 = .ok (.iconst 0, 1) := by decide +kernel
theorem d_As_takeName_43 : decode c_As_takeName 43 = .ok (.ireturn, 1) := by decide +kernel
theorem d_As_takeName_44 : decode c_As_takeName 44 = .ok (.aload_n 0, 1) := by decide +kernel
theorem d_As_takeName_45 : decode c_As_takeName 45 = .ok (.getfield 36, 3) := by decide +kernel
theorem d_As_takeName_48 : decode c_As_takeName 48 = .ok (.aload_n 0, 1) := by decide +kernel
theorem d_As_takeName_49 : decode c_As_takeName 49 = .ok (.getfield 39, 3) := by decide +kernel
theorem d_As_takeName_52 : decode c_As_takeName 52 = .ok (.iload_n 3, 1) := by decide +kernel
theorem d_As_takeName_53 : decode c_As_takeName 53 = .ok (.iastore, 1) := by decide +kernel
theorem d_As_takeName_54 : decode c_As_takeName 54 = .ok (.aload_n 0, 1) := by decide +kernel
theorem d_As_takeName_55 : decode c_As_takeName 55 = .ok (.getfield 30, 3) := by decide +kernel
theorem d_As_takeName_58 : decode c_As_takeName 58 = .ok (.aload_n 0, 1) := by decide +kernel
theorem d_As_takeName_59 : decode c_As_takeName 59 = .ok (.getfield 39, 3) := by decide +kernel
theorem d_As_takeName_62 : decode c_As_takeName 62 = .ok (.iload_n 1, 1) := by decide +kernel
theorem d_As_takeName_63 : decode c_As_takeName 63 = .ok (.iastore, 1) := by decide +kernel
theorem d_As_takeName_64 : decode c_As_takeName 64 = .ok (.aload_n 0, 1) := by decide +kernel
theorem d_As_takeName_65 : decode c_As_takeName 65 = .ok (.dup, 1) := by decide +kernel
theorem d_As_takeName_66 : decode c_As_takeName 66 = .ok (.getfield 39, 3) := by decide +kernel
theorem d_As_takeName_69 : decode c_As_takeName 69 = .ok (.iconst 1, 1) := by decide +kernel
theorem d_As_takeName_70 : decode c_As_takeName 70 = .ok (.iadd, 1) := by decide +kernel
theorem d_As_takeName_71 : decode c_As_takeName 71 = .ok (.putfield 39, 3) := by decide +kernel
theorem d_As_takeName_74 : decode c_As_takeName 74 = .ok (.iconst 1, 1) := by decide +kernel
theorem d_As_takeName_75 : decode c_As_takeName 75 = .ok (.ireturn, 1) := by decide +kernel
theorem d_As_findName_0 : decode c_As_findName 0 = .ok (.iconst 0, 1) := by decide +kernel
theorem d_As_findName_1 : decode c_As_findName 1 = .ok (.istore 4, 2) := by decide +kernel
theorem d_As_findName_3 : decode c_As_findName 3 = .ok (.iconst 0, 1) := by decide +kernel
theorem d_As_findName_4 : decode c_As_findName 4 = .ok (.istore 5, 2) := by decide +kernel
theorem d_As_findName_6 : decode c_As_findName 6 = .ok (.iload 5, 2) := by decide +kernel
theorem d_As_findName_8 : decode c_As_findName 8 = .ok (.aload_n 1, 1) := by decide +kernel
theorem d_As_findName_9 : decode c_As_findName 9 = .ok (.invokevirtual 21, 3) := by decide +kernel
theorem d_As_findName_12 : decode c_As_findName 12 = .ok (.if_icmp .ge 59, 3) := by decide +kernel
theorem d_As_findName_15 : decode c_As_findName 15 = .ok (.aload_n 1, 1) := by decide +kernel
theorem d_As_findName_16 : decode c_As_findName 16 = .ok (.iload 5, 2) := by decide +kernel
theorem d_As_findName_18 : decode c_As_findName 18 = .ok (.invokevirtual 85, 3) := by decide +kernel
theorem d_As_findName_21 : decode c_As_findName 21 = .ok (.bipush 32, 2) := by decide +kernel
theorem d_As_findName_23 : decode c_As_findName 23 = .ok (.if_icmp .ne 9, 3) := by decide +kernel
theorem d_As_findName_26 : decode c_As_findName 26 = .ok (.iinc 4 1, 3) := by decide +kernel
theorem d_As_findName_29 : decode c_As_findName 29 = .ok (.goto 36, 3) := by decide +kernel
theorem d_As_findName_32 : decode c_As_findName 32 = .ok (.iload 5, 2) := by decide +kernel
theorem d_As_findName_34 : decode c_As_findName 34 = .ok (.ifCond .eq 16, 3) := by decide +kernel
theorem d_As_findName_37 : decode c_As_findName 37 = .ok (.aload_n 1, 1) := by decide +kernel
theorem d_As_findName_38 : decode c_As_findName 38 = .ok (.iload 5, 2) := by decide +kernel
theorem d_As_findName_40 : decode c_As_findName 40 = .ok (.iconst 1, 1) := by decide +kernel
theorem d_As_findName_41 : decode c_As_findName 41 = .ok (.isub, 1) := by decide +kernel
theorem d_As_findName_42 : decode c_As_findName 42 = .ok (.invokevirtual 85, 3) := by decide +kernel
theorem d_As_findName_45 : decode c_As_findName 45 = .ok (.bipush 32, 2) := by decide +kernel
theorem d_As_findName_47 : decode c_As_findName 47 = .ok (.if_icmp .ne 18, 3) := by decide +kernel
theorem d_As_findName_50 : decode c_As_findName 50 = .ok (.aload_n 0, 1) := by decide +kernel
theorem d_As_findName_51 : decode c_As_findName 51 = .ok (.aload_n 1, 1) := by decide +kernel
theorem d_As_findName_52 : decode c_As_findName 52 = .ok (.iload 5, 2) := by decide +kernel
theorem d_As_findName_54 : decode c_As_findName 54 = .ok (.iload_n 2, 1) := by decide +kernel
theorem d_As_findName_55 : decode c_As_findName 55 = .ok (.iload_n 3, 1) := by decide +kernel
theorem d_As_findName_56 : decode c_As_findName 56 = .ok (.invokevirtual 89, 3) := by decide +kernel
theorem d_As_findName_59 : decode c_As_findName 59 = .ok (.ifCond .eq 6, 3) := by decide +kernel
theorem d_As_findName_62 : decode c_As_findName 62 = .ok (.iload 4, 2) := by decide +kernel
theorem d_As_findName_64 : decode c_As_findName 64 = .ok (.ireturn, 1) := by decide +kernel
theorem d_As_findName_65 : decode c_As_findName 65 = .ok (.iinc 5 1, 3) := by decide +kernel
theorem d_As_findName_68 : decode c_As_findName 68 = .ok (.goto (-62), 3) := by decide +kernel
theorem d_As_findName_71 : decode c_As_findName 71 = .ok (.iconst (-1), 1) := by decide +kernel
theorem d_As_findName_72 : decode c_As_findName 72 = .ok (.ireturn, 1) := by decide +kernel
theorem d_As_isName_0 : decode c_As_isName 0 = .ok (.iload_n 2, 1) := by decide +kernel
theorem d_As_isName_1 : decode c_As_isName 1 = .ok (.iload 4, 2) := by decide +kernel
theorem d_As_isName_3 : decode c_As_isName 3 = .ok (.iadd, 1) := by decide +kernel
theorem d_As_isName_4 : decode c_As_isName 4 = .ok (.iload_n 3, 1) := by decide +kernel
theorem d_As_isName_5 : decode c_As_isName 5 = .ok (.isub, 1) := by decide +kernel
theorem d_As_isName_6 : decode c_As_isName 6 = .ok (.istore 5, 2) := by decide +kernel
theorem d_As_isName_8 : decode c_As_isName 8 = .ok (.iload 5, 2) := by decide +kernel
theorem d_As_isName_10 : decode c_As_isName 10 = .ok (.aload_n 1, 1) := by decide +kernel
theorem d_As_isName_11 : decode c_As_isName 11 = .ok (.invokevirtual 21, 3) := by decide +kernel
theorem d_As_isName_14 : decode c_As_isName 14 = .ok (.if_icmp .gt 23, 3) := by decide +kernel
theorem d_As_isName_17 : decode c_As_isName 17 = .ok (.iload 5, 2) := by decide +kernel
theorem d_As_isName_19 : decode c_As_isName 19 = .ok (.aload_n 1, 1) := by decide +kernel
theorem d_As_isName_20 : decode c_As_isName 20 = .ok (.invokevirtual 21, 3) := by decide +kernel
theorem d_As_isName_23 : decode c_As_isName 23 = .ok (.if_icmp .ge 16, 3) := by decide +kernel
theorem d_As_isName_26 : decode c_As_isName 26 = .ok (.aload_n 1, 1) := by decide +kernel
theorem d_As_isName_27 : decode c_As_isName 27 = .ok (.iload 5, 2) := by decide +kernel
theorem d_As_isName_29 : decode c_As_isName 29 = .ok (.invokevirtual 85, 3) := by decide +kernel
theorem d_As_isName_32 : decode c_As_isName 32 = .ok (.bipush 32, 2) := by decide +kernel
theorem d_As_isName_34 : decode c_As_isName 34 = .ok (.if_icmp .eq 5, 3) := by decide +kernel
theorem d_As_isName_37 : decode c_As_isName 37 = .ok (.iconst 0, 1) := by decide +kernel
theorem d_As_isName_38 : decode c_As_isName 38 = .ok (.ireturn, 1) := by decide +kernel
theorem d_As_isName_39 : decode c_As_isName 39 = .ok (.aload_n 0, 1) := by decide +kernel
theorem d_As_isName_40 : decode c_As_isName 40 = .ok (.iconst 0, 1) := by decide +kernel
theorem d_As_isName_41 : decode c_As_isName 41 = .ok (.putfield 33, 3) := by decide +kernel
theorem d_As_isName_44 : decode c_As_isName 44 = .ok (.iload_n 3, 1) := by decide +kernel
theorem d_As_isName_45 : decode c_As_isName 45 = .ok (.istore 6, 2) := by decide +kernel
theorem d_As_isName_47 : decode c_As_isName 47 = .ok (.iload 6, 2) := by decide +kernel
theorem d_As_isName_49 : decode c_As_isName 49 = .ok (.iload 4, 2) := by decide +kernel
theorem d_As_isName_51 : decode c_As_isName 51 = .ok (.if_icmp .ge 122, 3) := by decide +kernel
theorem d_As_isName_54 : decode c_As_isName 54 = .ok (.aload_n 1, 1) := by decide +kernel
theorem d_As_isName_55 : decode c_As_isName 55 = .ok (.iload_n 2, 1) := by decide +kernel
theorem d_As_isName_56 : decode c_As_isName 56 = .ok (.iload 6, 2) := by decide +kernel
theorem d_As_isName_58 : decode c_As_isName 58 = .ok (.iadd, 1) := by decide +kernel
theorem d_As_isName_59 : decode c_As_isName 59 = .ok (.iload_n 3, 1) := by decide +kernel
theorem d_As_isName_60 : decode c_As_isName 60 = .ok (.isub, 1) := by decide +kernel
theorem d_As_isName_61 : decode c_As_isName 61 = .ok (.invokevirtual 85, 3) := by decide +kernel
theorem d_As_isName_64 : decode c_As_isName 64 = .ok (.istore 7, 2) := by decide +kernel
theorem d_As_isName_66 : decode c_As_isName 66 = .ok (.iload 7, 2) := by decide +kernel
theorem d_As_isName_68 : decode c_As_isName 68 = .ok (.bipush 78, 2) := by decide +kernel
theorem d_As_isName_70 : decode c_As_isName 70 = .ok (.if_icmp .ne 22, 3) := by decide +kernel
theorem d_As_isName_73 : decode c_As_isName 73 = .ok (.aload_n 0, 1) := by decide +kernel
theorem d_As_isName_74 : decode c_As_isName 74 = .ok (.ldc 93, 2) := by decide +kernel
theorem d_As_isName_76 : decode c_As_isName 76 = .ok (.aload_n 0, 1) := by decide +kernel
theorem d_As_isName_77 : decode c_As_isName 77 = .ok (.getfield 11, 3) := by decide +kernel
theorem d_As_isName_80 : decode c_As_isName 80 = .ok (.iload 6, 2) := by decide +kernel
theorem d_As_isName_82 : decode c_As_isName 82 = .ok (.caload, 1) := by decide +kernel
theorem d_As_isName_83 : decode c_As_isName 83 = .ok (.invokevirtual 95, 3) := by decide +kernel
theorem d_As_isName_86 : decode c_As_isName 86 = .ok (.putfield 33, 3) := by decide +kernel
theorem d_As_isName_89 : decode c_As_isName 89 = .ok (.goto 69, 3) := by decide +kernel
theorem d_As_isName_92 : decode c_As_isName 92 = .ok (.iload 7, 2) := by decide +kernel
theorem d_As_isName_94 : decode c_As_isName 94 = .ok (.bipush 70, 2) := by decide +kernel
theorem d_As_isName_96 : decode c_As_isName 96 = .ok (.if_icmp .ne 22, 3) := by decide +kernel
theorem d_As_isName_99 : decode c_As_isName 99 = .ok (.aload_n 0, 1) := by decide +kernel
theorem d_As_isName_100 : decode c_As_isName 100 = .ok (.ldc 98, 2) := by decide +kernel
theorem d_As_isName_102 : decode c_As_isName 102 = .ok (.aload_n 0, 1) := by decide +kernel
theorem d_As_isName_103 : decode c_As_isName 103 = .ok (.getfield 11, 3) := by decide +kernel
theorem d_As_isName_106 : decode c_As_isName 106 = .ok (.iload 6, 2) := by decide +kernel
theorem d_As_isName_108 : decode c_As_isName 108 = .ok (.caload, 1) := by decide +kernel
theorem d_As_isName_109 : decode c_As_isName 109 = .ok (.invokevirtual 95, 3) := by decide +kernel
theorem d_As_isName_112 : decode c_As_isName 112 = .ok (.putfield 33, 3) := by decide +kernel
theorem d_As_isName_115 : decode c_As_isName 115 = .ok (.goto 43, 3) := by decide +kernel
theorem d_As_isName_118 : decode c_As_isName 118 = .ok (.iload 7, 2) := by decide +kernel
theorem d_As_isName_120 : decode c_As_isName 120 = .ok (.bipush 76, 2) := by decide +kernel
theorem d_As_isName_122 : decode c_As_isName 122 = .ok (.if_icmp .ne 22, 3) := by decide +kernel
theorem d_As_isName_125 : decode c_As_isName 125 = .ok (.aload_n 0, 1) := by decide +kernel
theorem d_As_isName_126 : decode c_As_isName 126 = .ok (.ldc 19, 2) := by decide +kernel
theorem d_As_isName_128 : decode c_As_isName 128 = .ok (.aload_n 0, 1) := by decide +kernel
theorem d_As_isName_129 : decode c_As_isName 129 = .ok (.getfield 11, 3) := by decide +kernel
theorem d_As_isName_132 : decode c_As_isName 132 = .ok (.iload 6, 2) := by decide +kernel
theorem d_As_isName_134 : decode c_As_isName 134 = .ok (.caload, 1) := by decide +kernel
theorem d_As_isName_135 : decode c_As_isName 135 = .ok (.invokevirtual 95, 3) := by decide +kernel
theorem d_As_isName_138 : decode c_As_isName 138 = .ok (.putfield 33, 3) := by decide +kernel
theorem d_As_isName_141 : decode c_As_isName 141 = .ok (.goto 17, 3) := by decide +kernel
theorem d_As_isName_144 : decode c_As_isName 144 = .ok (.iload 7, 2) := by decide +kernel
theorem d_As_isName_146 : decode c_As_isName 146 = .ok (.aload_n 0, 1) := by decide +kernel
theorem d_As_isName_147 : decode c_As_isName 147 = .ok (.getfield 11, 3) := by decide +kernel
theorem d_As_isName_150 : decode c_As_isName 150 = .ok (.iload 6, 2) := by decide +kernel
theorem d_As_isName_152 : decode c_As_isName 152 = .ok (.caload, 1) := by decide +kernel
theorem d_As_isName_153 : decode c_As_isName 153 = .ok (.if_icmp .eq 5, 3) := by decide +kernel
theorem d_As_isName_156 : decode c_As_isName 156 = .ok (.iconst 0, 1) := by decide +kernel
theorem d_As_isName_157 : decode c_As_isName 157 = .ok (.ireturn, 1) := by decide +kernel
theorem d_As_isName_158 : decode c_As_isName 158 = .ok (.aload_n 0, 1) := by decide +kernel
theorem d_As_isName_159 : decode c_As_isName 159 = .ok (.getfield 33, 3) := by decide +kernel
theorem d_As_isName_162 : decode c_As_isName 162 = .ok (.ifCond .ge 5, 3) := by decide +kernel
theorem d_As_isName_165 : decode c_As_isName 165 = .ok (.iconst 0, 1) := by decide +kernel
theorem d_As_isName_166 : decode c_As_isName 166 = .ok (.ireturn, 1) := by decide +kernel
theorem d_As_isName_167 : decode c_As_isName 167 = .ok (.iinc 6 1, 3) := by decide +kernel
theorem d_As_isName_170 : decode c_As_isName 170 = .ok (.goto (-123), 3) := by decide +kernel
theorem d_As_isName_173 : decode c_As_isName 173 = .ok (.iconst 1, 1) := by decide +kernel
theorem d_As_isName_174 : decode c_As_isName 174 = .ok (.ireturn, 1) := by decide +kernel
theorem d_As_takeLabel_0 : decode c_As_takeLabel 0 = .ok (.aload_n 0, 1) := by decide +kernel
theorem d_As_takeLabel_1 : decode c_As_takeLabel 1 = .ok (.getfield 26, 3) := by decide +kernel
theorem d_As_takeLabel_4 : decode c_As_takeLabel 4 = .ok (.iload_n 1, 1) := by decide +kernel
theorem d_As_takeLabel_5 : decode c_As_takeLabel 5 = .ok (.iaload, 1) := by decide +kernel
theorem d_As_takeLabel_6 : decode c_As_takeLabel 6 = .ok (.iconst (-1), 1) := by decide +kernel
theorem d_As_takeLabel_7 : decode c_As_takeLabel 7 = .ok (.if_icmp .eq 5, 3) := by decide +kernel
theorem d_As_takeLabel_10 : decode c_As_takeLabel 10 = .ok (.iconst 0, 1) := by decide +kernel
theorem d_As_takeLabel_11 : decode c_As_takeLabel 11 = .ok (.ireturn, 1) := by decide +kernel
theorem d_As_takeLabel_12 : decode c_As_takeLabel 12 = .ok (.aload_n 0, 1) := by decide +kernel
theorem d_As_takeLabel_13 : decode c_As_takeLabel 13 = .ok (.getfield 26, 3) := by decide +kernel
theorem d_As_takeLabel_16 : decode c_As_takeLabel 16 = .ok (.iload_n 1, 1) := by decide +kernel
theorem d_As_takeLabel_17 : decode c_As_takeLabel 17 = .ok (.aload_n 0, 1) := by decide +kernel
theorem d_As_takeLabel_18 : decode c_As_takeLabel 18 = .ok (.getfield 39, 3) := by decide +kernel
theorem d_As_takeLabel_21 : decode c_As_takeLabel 21 = .ok (.bipush 64, 2) := by decide +kernel
theorem d_As_takeLabel_23 : decode c_As_takeLabel 23 = .ok (.irem, 1) := by decide +kernel
theorem d_As_takeLabel_24 : decode c_As_takeLabel 24 = .ok (.iastore, 1) := by decide +kernel
theorem d_As_takeLabel_25 : decode c_As_takeLabel 25 = .ok (.iconst 1, 1) := by decide +kernel
theorem d_As_takeLabel_26 : decode c_As_takeLabel 26 = .ok (.ireturn, 1) := by decide +kernel
theorem d_As_wordOfName_0 : decode c_As_wordOfName 0 = .ok (.aload_n 0, 1) := by decide +kernel
theorem d_As_wordOfName_1 : decode c_As_wordOfName 1 = .ok (.ldc 79, 2) := by decide +kernel
theorem d_As_wordOfName_3 : decode c_As_wordOfName 3 = .ok (.iload_n 1, 1) := by decide +kernel
theorem d_As_wordOfName_4 : decode c_As_wordOfName 4 = .ok (.iload_n 2, 1) := by decide +kernel
theorem d_As_wordOfName_5 : decode c_As_wordOfName 5 = .ok (.invokevirtual 68, 3) := by decide +kernel
theorem d_As_wordOfName_8 : decode c_As_wordOfName 8 = .ok (.istore_n 3, 1) := by decide +kernel
theorem d_As_wordOfName_9 : decode c_As_wordOfName 9 = .ok (.iload_n 3, 1) := by decide +kernel
theorem d_As_wordOfName_10 : decode c_As_wordOfName 10 = .ok (.iconst (-1), 1) := by decide +kernel
theorem d_As_wordOfName_11 : decode c_As_wordOfName 11 = .ok (.if_icmp .eq 15, 3) := by decide +kernel
theorem d_As_wordOfName_14 : decode c_As_wordOfName 14 = .ok (.aload_n 0, 1) := by decide +kernel
theorem d_As_wordOfName_15 : decode c_As_wordOfName 15 = .ok (.getfield 33, 3) := by decide +kernel
theorem d_As_wordOfName_18 : decode c_As_wordOfName 18 = .ok (.bipush 64, 2) := by decide +kernel
theorem d_As_wordOfName_20 : decode c_As_wordOfName 20 = .ok (.imul, 1) := by decide +kernel
theorem d_As_wordOfName_21 : decode c_As_wordOfName 21 = .ok (.iload_n 3, 1) := by decide +kernel
theorem d_As_wordOfName_22 : decode c_As_wordOfName 22 = .ok (.iconst 4, 1) := by decide +kernel
theorem d_As_wordOfName_23 : decode c_As_wordOfName 23 = .ok (.imul, 1) := by decide +kernel
theorem d_As_wordOfName_24 : decode c_As_wordOfName 24 = .ok (.iadd, 1) := by decide +kernel
theorem d_As_wordOfName_25 : decode c_As_wordOfName 25 = .ok (.ireturn, 1) := by decide +kernel
theorem d_As_wordOfName_26 : decode c_As_wordOfName 26 = .ok (.aload_n 0, 1) := by decide +kernel
theorem d_As_wordOfName_27 : decode c_As_wordOfName 27 = .ok (.ldc 81, 2) := by decide +kernel
theorem d_As_wordOfName_29 : decode c_As_wordOfName 29 = .ok (.iload_n 1, 1) := by decide +kernel
theorem d_As_wordOfName_30 : decode c_As_wordOfName 30 = .ok (.iload_n 2, 1) := by decide +kernel
theorem d_As_wordOfName_31 : decode c_As_wordOfName 31 = .ok (.invokevirtual 68, 3) := by decide +kernel
theorem d_As_wordOfName_34 : decode c_As_wordOfName 34 = .ok (.istore_n 3, 1) := by decide +kernel
theorem d_As_wordOfName_35 : decode c_As_wordOfName 35 = .ok (.iload_n 3, 1) := by decide +kernel
theorem d_As_wordOfName_36 : decode c_As_wordOfName 36 = .ok (.iconst (-1), 1) := by decide +kernel
theorem d_As_wordOfName_37 : decode c_As_wordOfName 37 = .ok (.if_icmp .eq 17, 3) := by decide +kernel
theorem d_As_wordOfName_40 : decode c_As_wordOfName 40 = .ok (.iload_n 3, 1) := by decide +kernel
theorem d_As_wordOfName_41 : decode c_As_wordOfName 41 = .ok (.bipush 32, 2) := by decide +kernel
theorem d_As_wordOfName_43 : decode c_As_wordOfName 43 = .ok (.imul, 1) := by decide +kernel
theorem d_As_wordOfName_44 : decode c_As_wordOfName 44 = .ok (.aload_n 0, 1) := by decide +kernel
theorem d_As_wordOfName_45 : decode c_As_wordOfName 45 = .ok (.getfield 33, 3) := by decide +kernel
theorem d_As_wordOfName_48 : decode c_As_wordOfName 48 = .ok (.iconst 4, 1) := by decide +kernel
theorem d_As_wordOfName_49 : decode c_As_wordOfName 49 = .ok (.imul, 1) := by decide +kernel
theorem d_As_wordOfName_50 : decode c_As_wordOfName 50 = .ok (.iadd, 1) := by decide +kernel
theorem d_As_wordOfName_51 : decode c_As_wordOfName 51 = .ok (.iconst 2, 1) := by decide +kernel
theorem d_As_wordOfName_52 : decode c_As_wordOfName 52 = .ok (.iadd, 1) := by decide +kernel
theorem d_As_wordOfName_53 : decode c_As_wordOfName 53 = .ok (.ireturn, 1) := by decide +kernel
theorem d_As_wordOfName_54 : decode c_As_wordOfName 54 = .ok (.aload_n 0, 1) := by decide +kernel
theorem d_As_wordOfName_55 : decode c_As_wordOfName 55 = .ok (.ldc 83, 2) := by decide +kernel
theorem d_As_wordOfName_57 : decode c_As_wordOfName 57 = .ok (.iload_n 1, 1) := by decide +kernel
theorem d_As_wordOfName_58 : decode c_As_wordOfName 58 = .ok (.iload_n 2, 1) := by decide +kernel
theorem d_As_wordOfName_59 : decode c_As_wordOfName 59 = .ok (.invokevirtual 68, 3) := by decide +kernel
theorem d_As_wordOfName_62 : decode c_As_wordOfName 62 = .ok (.istore_n 3, 1) := by decide +kernel
theorem d_As_wordOfName_63 : decode c_As_wordOfName 63 = .ok (.iload_n 3, 1) := by decide +kernel
theorem d_As_wordOfName_64 : decode c_As_wordOfName 64 = .ok (.iconst (-1), 1) := by decide +kernel
theorem d_As_wordOfName_65 : decode c_As_wordOfName 65 = .ok (.if_icmp .ne 7, 3) := by decide +kernel
theorem d_As_wordOfName_68 : decode c_As_wordOfName 68 = .ok (.iconst (-1), 1) := by decide +kernel
theorem d_As_wordOfName_69 : decode c_As_wordOfName 69 = .ok (.goto 15, 3) := by decide +kernel
theorem d_As_wordOfName_72 : decode c_As_wordOfName 72 = .ok (.aload_n 0, 1) := by decide +kernel
theorem d_As_wordOfName_73 : decode c_As_wordOfName 73 = .ok (.getfield 33, 3) := by decide +kernel
theorem d_As_wordOfName_76 : decode c_As_wordOfName 76 = .ok (.iconst 4, 1) := by decide +kernel
theorem d_As_wordOfName_77 : decode c_As_wordOfName 77 = .ok (.imul, 1) := by decide +kernel
theorem d_As_wordOfName_78 : decode c_As_wordOfName 78 = .ok (.iload_n 3, 1) := by decide +kernel
theorem d_As_wordOfName_79 : decode c_As_wordOfName 79 = .ok (.iconst 2, 1) := by decide +kernel
theorem d_As_wordOfName_80 : decode c_As_wordOfName 80 = .ok (.imul, 1) := by decide +kernel
theorem d_As_wordOfName_81 : decode c_As_wordOfName 81 = .ok (.iadd, 1) := by decide +kernel
theorem d_As_wordOfName_82 : decode c_As_wordOfName 82 = .ok (.iconst 1, 1) := by decide +kernel
theorem d_As_wordOfName_83 : decode c_As_wordOfName 83 = .ok (.iadd, 1) := by decide +kernel
theorem d_As_wordOfName_84 : decode c_As_wordOfName 84 = .ok (.ireturn, 1) := by decide +kernel
theorem d_As_fillInLabels_0 : decode c_As_fillInLabels 0 = .ok (.iconst 0, 1) := by decide +kernel
theorem d_As_fillInLabels_1 : decode c_As_fillInLabels 1 = .ok (.istore_n 1, 1) := by decide +kernel
theorem d_As_fillInLabels_2 : decode c_As_fillInLabels 2 = .ok (.iload_n 1, 1) := by decide +kernel
theorem d_As_fillInLabels_3 : decode c_As_fillInLabels 3 = .ok (.aload_n 0, 1) := by decide +kernel
theorem d_As_fillInLabels_4 : decode c_As_fillInLabels 4 = .ok (.getfield 39, 3) := by decide +kernel
theorem d_As_fillInLabels_7 : decode c_As_fillInLabels 7 = .ok (.if_icmp .ge 81, 3) := by decide +kernel
theorem d_As_fillInLabels_10 : decode c_As_fillInLabels 10 = .ok (.aload_n 0, 1) := by decide +kernel
theorem d_As_fillInLabels_11 : decode c_As_fillInLabels 11 = .ok (.getfield 42, 3) := by decide +kernel
theorem d_As_fillInLabels_14 : decode c_As_fillInLabels 14 = .ok (.iconst (-1), 1) := by decide +kernel
theorem d_As_fillInLabels_15 : decode c_As_fillInLabels 15 = .ok (.if_icmp .ne 73, 3) := by decide +kernel
theorem d_As_fillInLabels_18 : decode c_As_fillInLabels 18 = .ok (.aload_n 0, 1) := by decide +kernel
theorem d_As_fillInLabels_19 : decode c_As_fillInLabels 19 = .ok (.getfield 36, 3) := by decide +kernel
theorem d_As_fillInLabels_22 : decode c_As_fillInLabels 22 = .ok (.iload_n 1, 1) := by decide +kernel
theorem d_As_fillInLabels_23 : decode c_As_fillInLabels 23 = .ok (.iaload, 1) := by decide +kernel
theorem d_As_fillInLabels_24 : decode c_As_fillInLabels 24 = .ok (.iconst 2, 1) := by decide +kernel
theorem d_As_fillInLabels_25 : decode c_As_fillInLabels 25 = .ok (.irem, 1) := by decide +kernel
theorem d_As_fillInLabels_26 : decode c_As_fillInLabels 26 = .ok (.ifCond .ne 6, 3) := by decide +kernel
theorem d_As_fillInLabels_29 : decode c_As_fillInLabels 29 = .ok (.goto 53, 3) := by decide +kernel
theorem d_As_fillInLabels_32 : decode c_As_fillInLabels 32 = .ok (.aload_n 0, 1) := by decide +kernel
theorem d_As_fillInLabels_33 : decode c_As_fillInLabels 33 = .ok (.getfield 26, 3) := by decide +kernel
theorem d_As_fillInLabels_36 : decode c_As_fillInLabels 36 = .ok (.aload_n 0, 1) := by decide +kernel
theorem d_As_fillInLabels_37 : decode c_As_fillInLabels 37 = .ok (.getfield 36, 3) := by decide +kernel
theorem d_As_fillInLabels_40 : decode c_As_fillInLabels 40 = .ok (.iload_n 1, 1) := by decide +kernel
theorem d_As_fillInLabels_41 : decode c_As_fillInLabels 41 = .ok (.iaload, 1) := by decide +kernel
theorem d_As_fillInLabels_42 : decode c_As_fillInLabels 42 = .ok (.iconst 4, 1) := by decide +kernel
theorem d_As_fillInLabels_43 : decode c_As_fillInLabels 43 = .ok (.idiv, 1) := by decide +kernel
theorem d_As_fillInLabels_44 : decode c_As_fillInLabels 44 = .ok (.iaload, 1) := by decide +kernel
theorem d_As_fillInLabels_45 : decode c_As_fillInLabels 45 = .ok (.istore_n 2, 1) := by decide +kernel
theorem d_As_fillInLabels_46 : decode c_As_fillInLabels 46 = .ok (.iload_n 2, 1) := by decide +kernel
theorem d_As_fillInLabels_47 : decode c_As_fillInLabels 47 = .ok (.iconst (-1), 1) := by decide +kernel
theorem d_As_fillInLabels_48 : decode c_As_fillInLabels 48 = .ok (.if_icmp .ne 16, 3) := by decide +kernel
theorem d_As_fillInLabels_51 : decode c_As_fillInLabels 51 = .ok (.aload_n 0, 1) := by decide +kernel
theorem d_As_fillInLabels_52 : decode c_As_fillInLabels 52 = .ok (.aload_n 0, 1) := by decide +kernel
theorem d_As_fillInLabels_53 : decode c_As_fillInLabels 53 = .ok (.getfield 30, 3) := by decide +kernel
theorem d_As_fillInLabels_56 : decode c_As_fillInLabels 56 = .ok (.iload_n 1, 1) := by decide +kernel
theorem d_As_fillInLabels_57 : decode c_As_fillInLabels 57 = .ok (.iaload, 1) := by decide +kernel
theorem d_As_fillInLabels_58 : decode c_As_fillInLabels 58 = .ok (.putfield 42, 3) := by decide +kernel
theorem d_As_fillInLabels_61 : decode c_As_fillInLabels 61 = .ok (.goto 21, 3) := by decide +kernel
theorem d_As_fillInLabels_64 : decode c_As_fillInLabels 64 = .ok (.aload_n 0, 1) := by decide +kernel
theorem d_As_fillInLabels_65 : decode c_As_fillInLabels 65 = .ok (.getfield 36, 3) := by decide +kernel
theorem d_As_fillInLabels_68 : decode c_As_fillInLabels 68 = .ok (.iload_n 1, 1) := by decide +kernel
theorem d_As_fillInLabels_69 : decode c_As_fillInLabels 69 = .ok (.iload_n 2, 1) := by decide +kernel
theorem d_As_fillInLabels_70 : decode c_As_fillInLabels 70 = .ok (.iconst 4, 1) := by decide +kernel
theorem d_As_fillInLabels_71 : decode c_As_fillInLabels 71 = .ok (.imul, 1) := by decide +kernel
theorem d_As_fillInLabels_72 : decode c_As_fillInLabels 72 = .ok (.aload_n 0, 1) := by decide +kernel
theorem d_As_fillInLabels_73 : decode c_As_fillInLabels 73 = .ok (.getfield 36, 3) := by decide +kernel
theorem d_As_fillInLabels_76 : decode c_As_fillInLabels 76 = .ok (.iload_n 1, 1) := by decide +kernel
theorem d_As_fillInLabels_77 : decode c_As_fillInLabels 77 = .ok (.iaload, 1) := by decide +kernel
theorem d_As_fillInLabels_78 : decode c_As_fillInLabels 78 = .ok (.iconst 4, 1) := by decide +kernel
theorem d_As_fillInLabels_79 : decode c_As_fillInLabels 79 = .ok (.irem, 1) := by decide +kernel
theorem d_As_fillInLabels_80 : decode c_As_fillInLabels 80 = .ok (.iadd, 1) := by decide +kernel
theorem d_As_fillInLabels_81 : decode c_As_fillInLabels 81 = .ok (.iastore, 1) := by decide +kernel
theorem d_As_fillInLabels_82 : decode c_As_fillInLabels 82 = .ok (.iinc 1 1, 3) := by decide +kernel
theorem d_As_fillInLabels_85 : decode c_As_fillInLabels 85 = .ok (.goto (-83), 3) := by decide +kernel
theorem d_As_fillInLabels_88 : decode c_As_fillInLabels 88 = .ok (.return_, 1) := by decide +kernel
end
section
theorem d_Ch_init_0 : decode c_Ch_init 0 = .ok (.aload_n 0, 1) := by decide +kernel
theorem d_Ch_init_1 : decode c_Ch_init 1 = .ok (.invokespecial 1, 3) := by decide +kernel
theorem d_Ch_init_4 : decode c_Ch_init 4 = .ok (.aload_n 0, 1) := by decide +kernel
theorem d_Ch_init_5 : decode c_Ch_init 5 = .ok (.new 7, 3) := by decide +kernel
theorem d_Ch_init_8 : decode c_Ch_init 8 = .ok (.dup, 1) := by decide +kernel
theorem d_Ch_init_9 : decode c_Ch_init 9 = .ok (.invokespecial 9, 3) := by decide +kernel
theorem d_Ch_init_12 : decode c_Ch_init 12 = .ok (.putfield 10, 3) := by decide +kernel
theorem d_Ch_init_15 : decode c_Ch_init 15 = .ok (.aload_n 0, 1) := by decide +kernel
theorem d_Ch_init_16 : decode c_Ch_init 16 = .ok (.new 16, 3) := by decide +kernel
theorem d_Ch_init_19 : decode c_Ch_init 19 = .ok (.dup, 1) := by decide +kernel
theorem d_Ch_init_20 : decode c_Ch_init 20 = .ok (.invokespecial 18, 3) := by decide +kernel
theorem d_Ch_init_23 : decode c_Ch_init 23 = .ok (.putfield 19, 3) := by decide +kernel
theorem d_Ch_init_26 : decode c_Ch_init 26 = .ok (.return_, 1) := by decide +kernel
theorem d_Ch_type_0 : decode c_Ch_type 0 = .ok (.aload_n 0, 1) := by decide +kernel
theorem d_Ch_type_1 : decode c_Ch_type 1 = .ok (.getfield 10, 3) := by decide +kernel
theorem d_Ch_type_4 : decode c_Ch_type 4 = .ok (.iload_n 1, 1) := by decide +kernel
theorem d_Ch_type_5 : decode c_Ch_type 5 = .ok (.invokevirtual 23, 3) := by decide +kernel
theorem d_Ch_type_8 : decode c_Ch_type 8 = .ok (.ireturn, 1) := by decide +kernel
theorem d_Ch_illAt_0 : decode c_Ch_illAt 0 = .ok (.aload_n 0, 1) := by decide +kernel
theorem d_Ch_illAt_1 : decode c_Ch_illAt 1 = .ok (.getfield 10, 3) := by decide +kernel
theorem d_Ch_illAt_4 : decode c_Ch_illAt 4 = .ok (.getfield 46, 3) := by decide +kernel
theorem d_Ch_illAt_7 : decode c_Ch_illAt 7 = .ok (.ireturn, 1) := by decide +kernel
theorem d_Ch_word_0 : decode c_Ch_word 0 = .ok (.iload_n 1, 1) := by decide +kernel
theorem d_Ch_word_1 : decode c_Ch_word 1 = .ok (.invokestatic 49, 3) := by decide +kernel
theorem d_Ch_word_4 : decode c_Ch_word 4 = .ok (.ifCond .eq 15, 3) := by decide +kernel
theorem d_Ch_word_7 : decode c_Ch_word 7 = .ok (.aload_n 0, 1) := by decide +kernel
theorem d_Ch_word_8 : decode c_Ch_word 8 = .ok (.getfield 19, 3) := by decide +kernel
theorem d_Ch_word_11 : decode c_Ch_word 11 = .ok (.getfield 53, 3) := by decide +kernel
theorem d_Ch_word_14 : decode c_Ch_word 14 = .ok (.iload_n 1, 1) := by decide +kernel
theorem d_Ch_word_15 : decode c_Ch_word 15 = .ok (.iaload, 1) := by decide +kernel
theorem d_Ch_word_16 : decode c_Ch_word 16 = .ok (.goto 4, 3) := by decide +kernel
theorem d_Ch_word_19 : decode c_Ch_word 19 = .ok (.iconst (-1), 1) := by decide +kernel
theorem d_Ch_word_20 : decode c_Ch_word 20 = .ok (.ireturn, 1) := by decide +kernel
theorem d_Ch_isPlace_0 : decode c_Ch_isPlace 0 = .ok (.iload_n 0, 1) := by decide +kernel
theorem d_Ch_isPlace_1 : decode c_Ch_isPlace 1 = .ok (.ifCond .lt 13, 3) := by decide +kernel
theorem d_Ch_isPlace_4 : decode c_Ch_isPlace 4 = .ok (.iload_n 0, 1) := by decide +kernel
theorem d_Ch_isPlace_5 : decode c_Ch_isPlace 5 = .ok (.bipush 64, 2) := by decide +kernel
theorem d_Ch_isPlace_7 : decode c_Ch_isPlace 7 = .ok (.if_icmp .ge 7, 3) := by decide +kernel
theorem d_Ch_isPlace_10 : decode c_Ch_isPlace 10 = .ok (.iconst 1, 1) := by decide +kernel
theorem d_Ch_isPlace_11 : decode c_Ch_isPlace 11 = .ok (.goto 4, 3) := by decide +kernel
theorem d_Ch_isPlace_14 : decode c_Ch_isPlace 14 = .ok (.iconst 0, 1) := by decide +kernel
theorem d_Ch_isPlace_15 : decode c_Ch_isPlace 15 = .ok (.ireturn, 1) := by decide +kernel
theorem d_Ch_poke_0 : decode c_Ch_poke 0 = .ok (.iload_n 1, 1) := by decide +kernel
theorem d_Ch_poke_1 : decode c_Ch_poke 1 = .ok (.invokestatic 49, 3) := by decide +kernel
theorem d_Ch_poke_4 : decode c_Ch_poke 4 = .ok (.ifCond .eq 14, 3) := by decide +kernel
theorem d_Ch_poke_7 : decode c_Ch_poke 7 = .ok (.iload_n 2, 1) := by decide +kernel
theorem d_Ch_poke_8 : decode c_Ch_poke 8 = .ok (.ifCond .lt 10, 3) := by decide +kernel
theorem d_Ch_poke_11 : decode c_Ch_poke 11 = .ok (.iload_n 2, 1) := by decide +kernel
theorem d_Ch_poke_12 : decode c_Ch_poke 12 = .ok (.sipush 1024, 3) := by decide +kernel
theorem d_Ch_poke_15 : decode c_Ch_poke 15 = .ok (.if_icmp .lt 5, 3) := by decide +kernel
theorem d_Ch_poke_18 : decode c_Ch_poke 18 = .ok (.iconst 0, 1) := by decide +kernel
theorem d_Ch_poke_19 : decode c_Ch_poke 19 = .ok (.ireturn, 1) := by decide +kernel
theorem d_Ch_poke_20 : decode c_Ch_poke 20 = .ok (.aload_n 0, 1) := by decide +kernel
theorem d_Ch_poke_21 : decode c_Ch_poke 21 = .ok (.getfield 19, 3) := by decide +kernel
theorem d_Ch_poke_24 : decode c_Ch_poke 24 = .ok (.getfield 53, 3) := by decide +kernel
theorem d_Ch_poke_27 : decode c_Ch_poke 27 = .ok (.iload_n 1, 1) := by decide +kernel
theorem d_Ch_poke_28 : decode c_Ch_poke 28 = .ok (.iload_n 2, 1) := by decide +kernel
theorem d_Ch_poke_29 : decode c_Ch_poke 29 = .ok (.iastore, 1) := by decide +kernel
theorem d_Ch_poke_30 : decode c_Ch_poke 30 = .ok (.iconst 1, 1) := by decide +kernel
theorem d_Ch_poke_31 : decode c_Ch_poke 31 = .ok (.ireturn, 1) := by decide +kernel
theorem d_Ch_key_0 : decode c_Ch_key 0 = .ok (.aload_n 0, 1) := by decide +kernel
theorem d_Ch_key_1 : decode c_Ch_key 1 = .ok (.getfield 19, 3) := by decide +kernel
theorem d_Ch_key_4 : decode c_Ch_key 4 = .ok (.getfield 56, 3) := by decide +kernel
theorem d_Ch_key_7 : decode c_Ch_key 7 = .ok (.iload_n 1, 1) := by decide +kernel
theorem d_Ch_key_8 : decode c_Ch_key 8 = .ok (.invokevirtual 60, 3) := by decide +kernel
theorem d_Ch_key_11 : decode c_Ch_key 11 = .ok (.ireturn, 1) := by decide +kernel
theorem d_Ch_keys_0 : decode c_Ch_keys 0 = .ok (.aload_n 0, 1) := by decide +kernel
theorem d_Ch_keys_1 : decode c_Ch_keys 1 = .ok (.getfield 19, 3) := by decide +kernel
theorem d_Ch_keys_4 : decode c_Ch_keys 4 = .ok (.getfield 56, 3) := by decide +kernel
theorem d_Ch_keys_7 : decode c_Ch_keys 7 = .ok (.getfield 64, 3) := by decide +kernel
theorem d_Ch_keys_10 : decode c_Ch_keys 10 = .ok (.ireturn, 1) := by decide +kernel
theorem d_Ch_value_0 : decode c_Ch_value 0 = .ok (.iload_n 1, 1) := by decide +kernel
theorem d_Ch_value_1 : decode c_Ch_value 1 = .ok (.invokestatic 69, 3) := by decide +kernel
theorem d_Ch_value_4 : decode c_Ch_value 4 = .ok (.ifCond .eq 18, 3) := by decide +kernel
theorem d_Ch_value_7 : decode c_Ch_value 7 = .ok (.aload_n 0, 1) := by decide +kernel
theorem d_Ch_value_8 : decode c_Ch_value 8 = .ok (.getfield 19, 3) := by decide +kernel
theorem d_Ch_value_11 : decode c_Ch_value 11 = .ok (.getfield 72, 3) := by decide +kernel
theorem d_Ch_value_14 : decode c_Ch_value 14 = .ok (.getfield 76, 3) := by decide +kernel
theorem d_Ch_value_17 : decode c_Ch_value 17 = .ok (.iload_n 1, 1) := by decide +kernel
theorem d_Ch_value_18 : decode c_Ch_value 18 = .ok (.laload, 1) := by decide +kernel
theorem d_Ch_value_19 : decode c_Ch_value 19 = .ok (.goto 6, 3) := by decide +kernel
theorem d_Ch_value_22 : decode c_Ch_value 22 = .ok (.ldc2_w 82, 3) := by decide +kernel
theorem d_Ch_value_25 : decode c_Ch_value 25 = .ok (.lreturn, 1) := by decide +kernel
theorem d_Ch_isRegister_0 : decode c_Ch_isRegister 0 = .ok (.iload_n 0, 1) := by decide +kernel
theorem d_Ch_isRegister_1 : decode c_Ch_isRegister 1 = .ok (.ifCond .lt 13, 3) := by decide +kernel
theorem d_Ch_isRegister_4 : decode c_Ch_isRegister 4 = .ok (.iload_n 0, 1) := by decide +kernel
theorem d_Ch_isRegister_5 : decode c_Ch_isRegister 5 = .ok (.bipush 7, 2) := by decide +kernel
theorem d_Ch_isRegister_7 : decode c_Ch_isRegister 7 = .ok (.if_icmp .ge 7, 3) := by decide +kernel
theorem d_Ch_isRegister_10 : decode c_Ch_isRegister 10 = .ok (.iconst 1, 1) := by decide +kernel
theorem d_Ch_isRegister_11 : decode c_Ch_isRegister 11 = .ok (.goto 4, 3) := by decide +kernel
theorem d_Ch_isRegister_14 : decode c_Ch_isRegister 14 = .ok (.iconst 0, 1) := by decide +kernel
theorem d_Ch_isRegister_15 : decode c_Ch_isRegister 15 = .ok (.ireturn, 1) := by decide +kernel
theorem d_Ch_set_0 : decode c_Ch_set 0 = .ok (.iload_n 1, 1) := by decide +kernel
theorem d_Ch_set_1 : decode c_Ch_set 1 = .ok (.invokestatic 69, 3) := by decide +kernel
theorem d_Ch_set_4 : decode c_Ch_set 4 = .ok (.ifCond .eq 9, 3) := by decide +kernel
theorem d_Ch_set_7 : decode c_Ch_set 7 = .ok (.lload_n 2, 1) := by decide +kernel
theorem d_Ch_set_8 : decode c_Ch_set 8 = .ok (.lconst 0, 1) := by decide +kernel
theorem d_Ch_set_9 : decode c_Ch_set 9 = .ok (.lcmp, 1) := by decide +kernel
theorem d_Ch_set_10 : decode c_Ch_set 10 = .ok (.ifCond .ge 5, 3) := by decide +kernel
theorem d_Ch_set_13 : decode c_Ch_set 13 = .ok (.iconst 0, 1) := by decide +kernel
theorem d_Ch_set_14 : decode c_Ch_set 14 = .ok (.ireturn, 1) := by decide +kernel
theorem d_Ch_set_15 : decode c_Ch_set 15 = .ok (.aload_n 0, 1) := by decide +kernel
theorem d_Ch_set_16 : decode c_Ch_set 16 = .ok (.getfield 19, 3) := by decide +kernel
theorem d_Ch_set_19 : decode c_Ch_set 19 = .ok (.getfield 72, 3) := by decide +kernel
theorem d_Ch_set_22 : decode c_Ch_set 22 = .ok (.getfield 76, 3) := by decide +kernel
theorem d_Ch_set_25 : decode c_Ch_set 25 = .ok (.iload_n 1, 1) := by decide +kernel
theorem d_Ch_set_26 : decode c_Ch_set 26 = .ok (.lload_n 2, 1) := by decide +kernel
theorem d_Ch_set_27 : decode c_Ch_set 27 = .ok (.getstatic 84, 3) := by decide +kernel
theorem d_Ch_set_30 : decode c_Ch_set 30 = .ok (.bipush 14, 2) := by decide +kernel
theorem d_Ch_set_32 : decode c_Ch_set 32 = .ok (.laload, 1) := by decide +kernel
theorem d_Ch_set_33 : decode c_Ch_set 33 = .ok (.lrem, 1) := by decide +kernel
theorem d_Ch_set_34 : decode c_Ch_set 34 = .ok (.lastore, 1) := by decide +kernel
theorem d_Ch_set_35 : decode c_Ch_set 35 = .ok (.iconst 1, 1) := by decide +kernel
theorem d_Ch_set_36 : decode c_Ch_set 36 = .ok (.ireturn, 1) := by decide +kernel
theorem d_Ch_state_0 : decode c_Ch_state 0 = .ok (.iload_n 1, 1) := by decide +kernel
theorem d_Ch_state_1 : decode c_Ch_state 1 = .ok (.tableswitch 83 0 4 #[35, 43, 51, 67, 75], 35) := by decide +kernel
theorem d_Ch_state_36 : decode c_Ch_state 36 = .ok (.aload_n 0, 1) := by decide +kernel
theorem d_Ch_state_37 : decode c_Ch_state 37 = .ok (.getfield 19, 3) := by decide +kernel
theorem d_Ch_state_40 : decode c_Ch_state 40 = .ok (.getfield 87, 3) := by decide +kernel
theorem d_Ch_state_43 : decode c_Ch_state 43 = .ok (.ireturn, 1) := by decide +kernel
theorem d_Ch_state_44 : decode c_Ch_state 44 = .ok (.aload_n 0, 1) := by decide +kernel
theorem d_Ch_state_45 : decode c_Ch_state 45 = .ok (.getfield 19, 3) := by decide +kernel
theorem d_Ch_state_48 : decode c_Ch_state 48 = .ok (.getfield 90, 3) := by decide +kernel
theorem d_Ch_state_51 : decode c_Ch_state 51 = .ok (.ireturn, 1) := by decide +kernel
theorem d_Ch_state_52 : decode c_Ch_state 52 = .ok (.aload_n 0, 1) := by decide +kernel
theorem d_Ch_state_53 : decode c_Ch_state 53 = .ok (.getfield 19, 3) := by decide +kernel
theorem d_Ch_state_56 : decode c_Ch_state 56 = .ok (.getfield 93, 3) := by decide +kernel
theorem d_Ch_state_59 : decode c_Ch_state 59 = .ok (.ifCond .eq 7, 3) := by decide +kernel
theorem d_Ch_state_62 : decode c_Ch_state 62 = .ok (.iconst 1, 1) := by decide +kernel
theorem d_Ch_state_63 : decode c_Ch_state 63 = .ok (.goto 4, 3) := by decide +kernel
theorem d_Ch_state_66 : decode c_Ch_state 66 = .ok (.iconst 0, 1) := by decide +kernel
theorem d_Ch_state_67 : decode c_Ch_state 67 = .ok (.ireturn, 1) := by decide +kernel
theorem d_Ch_state_68 : decode c_Ch_state 68 = .ok (.aload_n 0, 1) := by decide +kernel
theorem d_Ch_state_69 : decode c_Ch_state 69 = .ok (.getfield 19, 3) := by decide +kernel
theorem d_Ch_state_72 : decode c_Ch_state 72 = .ok (.getfield 97, 3) := by decide +kernel
theorem d_Ch_state_75 : decode c_Ch_state 75 = .ok (.ireturn, 1) := by decide +kernel
theorem d_Ch_state_76 : decode c_Ch_state 76 = .ok (.aload_n 0, 1) := by decide +kernel
theorem d_Ch_state_77 : decode c_Ch_state 77 = .ok (.getfield 19, 3) := by decide +kernel
theorem d_Ch_state_80 : decode c_Ch_state 80 = .ok (.getfield 100, 3) := by decide +kernel
theorem d_Ch_state_83 : decode c_Ch_state 83 = .ok (.ireturn, 1) := by decide +kernel
theorem d_Ch_state_84 : decode c_Ch_state 84 = .ok (.iconst (-1), 1) := by decide +kernel
theorem d_Ch_state_85 : decode c_Ch_state 85 = .ok (.ireturn, 1) := by decide +kernel
theorem d_Ch_go_0 : decode c_Ch_go 0 = .ok (.iload_n 1, 1) := by decide +kernel
theorem d_Ch_go_1 : decode c_Ch_go 1 = .ok (.invokestatic 49, 3) := by decide +kernel
theorem d_Ch_go_4 : decode c_Ch_go 4 = .ok (.ifCond .ne 5, 3) := by decide +kernel
theorem d_Ch_go_7 : decode c_Ch_go 7 = .ok (.iconst 0, 1) := by decide +kernel
theorem d_Ch_go_8 : decode c_Ch_go 8 = .ok (.ireturn, 1) := by decide +kernel
theorem d_Ch_go_9 : decode c_Ch_go 9 = .ok (.aload_n 0, 1) := by decide +kernel
theorem d_Ch_go_10 : decode c_Ch_go 10 = .ok (.getfield 19, 3) := by decide +kernel
theorem d_Ch_go_13 : decode c_Ch_go 13 = .ok (.iload_n 1, 1) := by decide +kernel
theorem d_Ch_go_14 : decode c_Ch_go 14 = .ok (.putfield 97, 3) := by decide +kernel
theorem d_Ch_go_17 : decode c_Ch_go 17 = .ok (.iconst 1, 1) := by decide +kernel
theorem d_Ch_go_18 : decode c_Ch_go 18 = .ok (.ireturn, 1) := by decide +kernel
theorem d_Ch_display_0 : decode c_Ch_display 0 = .ok (.iload_n 1, 1) := by decide +kernel
theorem d_Ch_display_1 : decode c_Ch_display 1 = .ok (.bipush 14, 2) := by decide +kernel
theorem d_Ch_display_3 : decode c_Ch_display 3 = .ok (.if_icmp .ne 8, 3) := by decide +kernel
theorem d_Ch_display_6 : decode c_Ch_display 6 = .ok (.aload_n 0, 1) := by decide +kernel
theorem d_Ch_display_7 : decode c_Ch_display 7 = .ok (.invokevirtual 103, 3) := by decide +kernel
theorem d_Ch_display_10 : decode c_Ch_display 10 = .ok (.ireturn, 1) := by decide +kernel
theorem d_Ch_display_11 : decode c_Ch_display 11 = .ok (.iload_n 1, 1) := by decide +kernel
theorem d_Ch_display_12 : decode c_Ch_display 12 = .ok (.ifCond .lt 20, 3) := by decide +kernel
theorem d_Ch_display_15 : decode c_Ch_display 15 = .ok (.iload_n 1, 1) := by decide +kernel
theorem d_Ch_display_16 : decode c_Ch_display 16 = .ok (.bipush 14, 2) := by decide +kernel
theorem d_Ch_display_18 : decode c_Ch_display 18 = .ok (.if_icmp .ge 14, 3) := by decide +kernel
theorem d_Ch_display_21 : decode c_Ch_display 21 = .ok (.aload_n 0, 1) := by decide +kernel
theorem d_Ch_display_22 : decode c_Ch_display 22 = .ok (.bipush 13, 2) := by decide +kernel
theorem d_Ch_display_24 : decode c_Ch_display 24 = .ok (.iload_n 1, 1) := by decide +kernel
theorem d_Ch_display_25 : decode c_Ch_display 25 = .ok (.isub, 1) := by decide +kernel
theorem d_Ch_display_26 : decode c_Ch_display 26 = .ok (.invokevirtual 107, 3) := by decide +kernel
theorem d_Ch_display_29 : decode c_Ch_display 29 = .ok (.goto 4, 3) := by decide +kernel
theorem d_Ch_display_32 : decode c_Ch_display 32 = .ok (.iconst (-1), 1) := by decide +kernel
theorem d_Ch_display_33 : decode c_Ch_display 33 = .ok (.ireturn, 1) := by decide +kernel
theorem d_Ch_digitBeforePoint_0 : decode c_Ch_digitBeforePoint 0 = .ok (.bipush 12, 2) := by decide +kernel
theorem d_Ch_digitBeforePoint_2 : decode c_Ch_digitBeforePoint 2 = .ok (.istore_n 1, 1) := by decide +kernel
theorem d_Ch_digitBeforePoint_3 : decode c_Ch_digitBeforePoint 3 = .ok (.iload_n 1, 1) := by decide +kernel
theorem d_Ch_digitBeforePoint_4 : decode c_Ch_digitBeforePoint 4 = .ok (.iconst 2, 1) := by decide +kernel
theorem d_Ch_digitBeforePoint_5 : decode c_Ch_digitBeforePoint 5 = .ok (.if_icmp .le 27, 3) := by decide +kernel
theorem d_Ch_digitBeforePoint_8 : decode c_Ch_digitBeforePoint 8 = .ok (.aload_n 0, 1) := by decide +kernel
theorem d_Ch_digitBeforePoint_9 : decode c_Ch_digitBeforePoint 9 = .ok (.getfield 19, 3) := by decide +kernel
theorem d_Ch_digitBeforePoint_12 : decode c_Ch_digitBeforePoint 12 = .ok (.getfield 72, 3) := by decide +kernel
theorem d_Ch_digitBeforePoint_15 : decode c_Ch_digitBeforePoint 15 = .ok (.iconst 1, 1) := by decide +kernel
theorem d_Ch_digitBeforePoint_16 : decode c_Ch_digitBeforePoint 16 = .ok (.iload_n 1, 1) := by decide +kernel
theorem d_Ch_digitBeforePoint_17 : decode c_Ch_digitBeforePoint 17 = .ok (.invokevirtual 110, 3) := by decide +kernel
theorem d_Ch_digitBeforePoint_20 : decode c_Ch_digitBeforePoint 20 = .ok (.iconst 2, 1) := by decide +kernel
theorem d_Ch_digitBeforePoint_21 : decode c_Ch_digitBeforePoint 21 = .ok (.if_icmp .ne 5, 3) := by decide +kernel
theorem d_Ch_digitBeforePoint_24 : decode c_Ch_digitBeforePoint 24 = .ok (.iload_n 1, 1) := by decide +kernel
theorem d_Ch_digitBeforePoint_25 : decode c_Ch_digitBeforePoint 25 = .ok (.ireturn, 1) := by decide +kernel
theorem d_Ch_digitBeforePoint_26 : decode c_Ch_digitBeforePoint 26 = .ok (.iinc 1 (-1), 3) := by decide +kernel
theorem d_Ch_digitBeforePoint_29 : decode c_Ch_digitBeforePoint 29 = .ok (.goto (-26), 3) := by decide +kernel
theorem d_Ch_digitBeforePoint_32 : decode c_Ch_digitBeforePoint 32 = .ok (.iconst (-1), 1) := by decide +kernel
theorem d_Ch_digitBeforePoint_33 : decode c_Ch_digitBeforePoint 33 = .ok (.ireturn, 1) := by decide +kernel
theorem d_Ch_codeOfDigit_0 : decode c_Ch_codeOfDigit 0 = .ok (.aload_n 0, 1) := by decide +kernel
theorem d_Ch_codeOfDigit_1 : decode c_Ch_codeOfDigit 1 = .ok (.getfield 19, 3) := by decide +kernel
theorem d_Ch_codeOfDigit_4 : decode c_Ch_codeOfDigit 4 = .ok (.getfield 72, 3) := by decide +kernel
theorem d_Ch_codeOfDigit_7 : decode c_Ch_codeOfDigit 7 = .ok (.iconst 1, 1) := by decide +kernel
theorem d_Ch_codeOfDigit_8 : decode c_Ch_codeOfDigit 8 = .ok (.iload_n 1, 1) := by decide +kernel
theorem d_Ch_codeOfDigit_9 : decode c_Ch_codeOfDigit 9 = .ok (.invokevirtual 110, 3) := by decide +kernel
theorem d_Ch_codeOfDigit_12 : decode c_Ch_codeOfDigit 12 = .ok (.bipush 9, 2) := by decide +kernel
theorem d_Ch_codeOfDigit_14 : decode c_Ch_codeOfDigit 14 = .ok (.if_icmp .ne 6, 3) := by decide +kernel
theorem d_Ch_codeOfDigit_17 : decode c_Ch_codeOfDigit 17 = .ok (.bipush 32, 2) := by decide +kernel
theorem d_Ch_codeOfDigit_19 : decode c_Ch_codeOfDigit 19 = .ok (.ireturn, 1) := by decide +kernel
theorem d_Ch_codeOfDigit_20 : decode c_Ch_codeOfDigit 20 = .ok (.aload_n 0, 1) := by decide +kernel
theorem d_Ch_codeOfDigit_21 : decode c_Ch_codeOfDigit 21 = .ok (.getfield 19, 3) := by decide +kernel
theorem d_Ch_codeOfDigit_24 : decode c_Ch_codeOfDigit 24 = .ok (.getfield 72, 3) := by decide +kernel
theorem d_Ch_codeOfDigit_27 : decode c_Ch_codeOfDigit 27 = .ok (.iconst 0, 1) := by decide +kernel
theorem d_Ch_codeOfDigit_28 : decode c_Ch_codeOfDigit 28 = .ok (.iload_n 1, 1) := by decide +kernel
theorem d_Ch_codeOfDigit_29 : decode c_Ch_codeOfDigit 29 = .ok (.invokevirtual 110, 3) := by decide +kernel
theorem d_Ch_codeOfDigit_32 : decode c_Ch_codeOfDigit 32 = .ok (.istore_n 2, 1) := by decide +kernel
theorem d_Ch_codeOfDigit_33 : decode c_Ch_codeOfDigit 33 = .ok (.iload_n 1, 1) := by decide +kernel
theorem d_Ch_codeOfDigit_34 : decode c_Ch_codeOfDigit 34 = .ok (.bipush 13, 2) := by decide +kernel
theorem d_Ch_codeOfDigit_36 : decode c_Ch_codeOfDigit 36 = .ok (.if_icmp .eq 8, 3) := by decide +kernel
theorem d_Ch_codeOfDigit_39 : decode c_Ch_codeOfDigit 39 = .ok (.iload_n 1, 1) := by decide +kernel
theorem d_Ch_codeOfDigit_40 : decode c_Ch_codeOfDigit 40 = .ok (.iconst 2, 1) := by decide +kernel
theorem d_Ch_codeOfDigit_41 : decode c_Ch_codeOfDigit 41 = .ok (.if_icmp .ne 17, 3) := by decide +kernel
theorem d_Ch_codeOfDigit_44 : decode c_Ch_codeOfDigit 44 = .ok (.iload_n 2, 1) := by decide +kernel
theorem d_Ch_codeOfDigit_45 : decode c_Ch_codeOfDigit 45 = .ok (.bipush 9, 2) := by decide +kernel
theorem d_Ch_codeOfDigit_47 : decode c_Ch_codeOfDigit 47 = .ok (.if_icmp .ne 8, 3) := by decide +kernel
theorem d_Ch_codeOfDigit_50 : decode c_Ch_codeOfDigit 50 = .ok (.bipush 45, 2) := by decide +kernel
theorem d_Ch_codeOfDigit_52 : decode c_Ch_codeOfDigit 52 = .ok (.goto 5, 3) := by decide +kernel
theorem d_Ch_codeOfDigit_55 : decode c_Ch_codeOfDigit 55 = .ok (.bipush 32, 2) := by decide +kernel
theorem d_Ch_codeOfDigit_57 : decode c_Ch_codeOfDigit 57 = .ok (.ireturn, 1) := by decide +kernel
theorem d_Ch_codeOfDigit_58 : decode c_Ch_codeOfDigit 58 = .ok (.bipush 48, 2) := by decide +kernel
theorem d_Ch_codeOfDigit_60 : decode c_Ch_codeOfDigit 60 = .ok (.iload_n 2, 1) := by decide +kernel
theorem d_Ch_codeOfDigit_61 : decode c_Ch_codeOfDigit 61 = .ok (.iadd, 1) := by decide +kernel
theorem d_Ch_codeOfDigit_62 : decode c_Ch_codeOfDigit 62 = .ok (.ireturn, 1) := by decide +kernel
theorem d_Ch_assemble_0 : decode c_Ch_assemble 0 = .ok (.aload_n 0, 1) := by decide +kernel
theorem d_Ch_assemble_1 : decode c_Ch_assemble 1 = .ok (.getfield 10, 3) := by decide +kernel
theorem d_Ch_assemble_4 : decode c_Ch_assemble 4 = .ok (.invokevirtual 27, 3) := by decide +kernel
theorem d_Ch_assemble_7 : decode c_Ch_assemble 7 = .ok (.ifCond .ne 11, 3) := by decide +kernel
theorem d_Ch_assemble_10 : decode c_Ch_assemble 10 = .ok (.new 31, 3) := by decide +kernel
theorem d_Ch_assemble_13 : decode c_Ch_assemble 13 = .ok (.dup, 1) := by decide +kernel
theorem d_Ch_assemble_14 : decode c_Ch_assemble 14 = .ok (.invokespecial 33, 3) := by decide +kernel
theorem d_Ch_assemble_17 : decode c_Ch_assemble 17 = .ok (.athrow, 1) := by decide +kernel
theorem d_Ch_assemble_18 : decode c_Ch_assemble 18 = .ok (.aload_n 0, 1) := by decide +kernel
theorem d_Ch_assemble_19 : decode c_Ch_assemble 19 = .ok (.getfield 19, 3) := by decide +kernel
theorem d_Ch_assemble_22 : decode c_Ch_assemble 22 = .ok (.aload_n 0, 1) := by decide +kernel
theorem d_Ch_assemble_23 : decode c_Ch_assemble 23 = .ok (.getfield 10, 3) := by decide +kernel
theorem d_Ch_assemble_26 : decode c_Ch_assemble 26 = .ok (.getfield 34, 3) := by decide +kernel
theorem d_Ch_assemble_29 : decode c_Ch_assemble 29 = .ok (.aload_n 0, 1) := by decide +kernel
theorem d_Ch_assemble_30 : decode c_Ch_assemble 30 = .ok (.getfield 10, 3) := by decide +kernel
theorem d_Ch_assemble_33 : decode c_Ch_assemble 33 = .ok (.getfield 38, 3) := by decide +kernel
theorem d_Ch_assemble_36 : decode c_Ch_assemble 36 = .ok (.invokevirtual 42, 3) := by decide +kernel
theorem d_Ch_assemble_39 : decode c_Ch_assemble 39 = .ok (.aload_n 0, 1) := by decide +kernel
theorem d_Ch_assemble_40 : decode c_Ch_assemble 40 = .ok (.getfield 10, 3) := by decide +kernel
theorem d_Ch_assemble_43 : decode c_Ch_assemble 43 = .ok (.getfield 38, 3) := by decide +kernel
theorem d_Ch_assemble_46 : decode c_Ch_assemble 46 = .ok (.ireturn, 1) := by decide +kernel
theorem d_Ch_run_0 : decode c_Ch_run 0 = .ok (.iload_n 1, 1) := by decide +kernel
theorem d_Ch_run_1 : decode c_Ch_run 1 = .ok (.ifCond .lt 10, 3) := by decide +kernel
theorem d_Ch_run_4 : decode c_Ch_run 4 = .ok (.iload_n 1, 1) := by decide +kernel
theorem d_Ch_run_5 : decode c_Ch_run 5 = .ok (.sipush 400, 3) := by decide +kernel
theorem d_Ch_run_8 : decode c_Ch_run 8 = .ok (.if_icmp .le 11, 3) := by decide +kernel
theorem d_Ch_run_11 : decode c_Ch_run 11 = .ok (.new 31, 3) := by decide +kernel
theorem d_Ch_run_14 : decode c_Ch_run 14 = .ok (.dup, 1) := by decide +kernel
theorem d_Ch_run_15 : decode c_Ch_run 15 = .ok (.invokespecial 33, 3) := by decide +kernel
theorem d_Ch_run_18 : decode c_Ch_run 18 = .ok (.athrow, 1) := by decide +kernel
theorem d_Ch_run_19 : decode c_Ch_run 19 = .ok (.aload_n 0, 1) := by decide +kernel
theorem d_Ch_run_20 : decode c_Ch_run 20 = .ok (.getfield 19, 3) := by decide +kernel
theorem d_Ch_run_23 : decode c_Ch_run 23 = .ok (.iload_n 1, 1) := by decide +kernel
theorem d_Ch_run_24 : decode c_Ch_run 24 = .ok (.invokevirtual 65, 3) := by decide +kernel
theorem d_Ch_run_27 : decode c_Ch_run 27 = .ok (.ireturn, 1) := by decide +kernel
end
section
theorem d_La_assemble_0 : decode c_La_assemble 0 = .ok (.aload_n 1, 1) := by decide +kernel
theorem d_La_assemble_1 : decode c_La_assemble 1 = .ok (.iconst 0, 1) := by decide +kernel
theorem d_La_assemble_2 : decode c_La_assemble 2 = .ok (.aload_n 0, 1) := by decide +kernel
theorem d_La_assemble_3 : decode c_La_assemble 3 = .ok (.invokevirtual 7, 3) := by decide +kernel
theorem d_La_assemble_6 : decode c_La_assemble 6 = .ok (.i2l, 1) := by decide +kernel
theorem d_La_assemble_7 : decode c_La_assemble 7 = .ok (.lastore, 1) := by decide +kernel
theorem d_La_assemble_8 : decode c_La_assemble 8 = .ok (.goto 6, 3) := by decide +kernel
theorem d_La_assemble_11 : decode c_La_assemble 11 = .ok (.astore_n 2, 1) := by decide +kernel
theorem d_La_assemble_12 : decode c_La_assemble 12 = .ok (.iconst 1, 1) := by decide +kernel
theorem d_La_assemble_13 : decode c_La_assemble 13 = .ok (.ireturn, 1) := by decide +kernel
theorem d_La_assemble_14 : decode c_La_assemble 14 = .ok (.iconst 0, 1) := by decide +kernel
theorem d_La_assemble_15 : decode c_La_assemble 15 = .ok (.ireturn, 1) := by decide +kernel
theorem d_La_run_0 : decode c_La_run 0 = .ok (.aload_n 2, 1) := by decide +kernel
theorem d_La_run_1 : decode c_La_run 1 = .ok (.iconst 0, 1) := by decide +kernel
theorem d_La_run_2 : decode c_La_run 2 = .ok (.aload_n 0, 1) := by decide +kernel
theorem d_La_run_3 : decode c_La_run 3 = .ok (.iload_n 1, 1) := by decide +kernel
theorem d_La_run_4 : decode c_La_run 4 = .ok (.invokevirtual 15, 3) := by decide +kernel
theorem d_La_run_7 : decode c_La_run 7 = .ok (.i2l, 1) := by decide +kernel
theorem d_La_run_8 : decode c_La_run 8 = .ok (.lastore, 1) := by decide +kernel
theorem d_La_run_9 : decode c_La_run 9 = .ok (.goto 6, 3) := by decide +kernel
theorem d_La_run_12 : decode c_La_run 12 = .ok (.astore_n 3, 1) := by decide +kernel
theorem d_La_run_13 : decode c_La_run 13 = .ok (.iconst 1, 1) := by decide +kernel
theorem d_La_run_14 : decode c_La_run 14 = .ok (.ireturn, 1) := by decide +kernel
theorem d_La_run_15 : decode c_La_run 15 = .ok (.iconst 0, 1) := by decide +kernel
theorem d_La_run_16 : decode c_La_run 16 = .ok (.ireturn, 1) := by decide +kernel
end
section
theorem d_Ma_max_0 : decode c_Ma_max 0 = .ok (.iload_n 0, 1) := by decide +kernel
theorem d_Ma_max_1 : decode c_Ma_max 1 = .ok (.iload_n 1, 1) := by decide +kernel
theorem d_Ma_max_2 : decode c_Ma_max 2 = .ok (.if_icmp .lt 7, 3) := by decide +kernel
theorem d_Ma_max_5 : decode c_Ma_max 5 = .ok (.iload_n 0, 1) := by decide +kernel
theorem d_Ma_max_6 : decode c_Ma_max 6 = .ok (.goto 4, 3) := by decide +kernel
theorem d_Ma_max_9 : decode c_Ma_max 9 = .ok (.iload_n 1, 1) := by decide +kernel
theorem d_Ma_max_10 : decode c_Ma_max 10 = .ok (.ireturn, 1) := by decide +kernel
theorem d_Ma_min_0 : decode c_Ma_min 0 = .ok (.iload_n 0, 1) := by decide +kernel
theorem d_Ma_min_1 : decode c_Ma_min 1 = .ok (.iload_n 1, 1) := by decide +kernel
theorem d_Ma_min_2 : decode c_Ma_min 2 = .ok (.if_icmp .gt 7, 3) := by decide +kernel
theorem d_Ma_min_5 : decode c_Ma_min 5 = .ok (.iload_n 0, 1) := by decide +kernel
theorem d_Ma_min_6 : decode c_Ma_min 6 = .ok (.goto 4, 3) := by decide +kernel
theorem d_Ma_min_9 : decode c_Ma_min 9 = .ok (.iload_n 1, 1) := by decide +kernel
theorem d_Ma_min_10 : decode c_Ma_min 10 = .ok (.ireturn, 1) := by decide +kernel
theorem d_Ma_floorMod_0 : decode c_Ma_floorMod 0 = .ok (.lload_n 0, 1) := by decide +kernel
theorem d_Ma_floorMod_1 : decode c_Ma_floorMod 1 = .ok (.lload_n 2, 1) := by decide +kernel
theorem d_Ma_floorMod_2 : decode c_Ma_floorMod 2 = .ok (.lrem, 1) := by decide +kernel
theorem d_Ma_floorMod_3 : decode c_Ma_floorMod 3 = .ok (.lstore 4, 2) := by decide +kernel
theorem d_Ma_floorMod_5 : decode c_Ma_floorMod 5 = .ok (.lload_n 0, 1) := by decide +kernel
theorem d_Ma_floorMod_6 : decode c_Ma_floorMod 6 = .ok (.lload_n 2, 1) := by decide +kernel
theorem d_Ma_floorMod_7 : decode c_Ma_floorMod 7 = .ok (.lxor, 1) := by decide +kernel
theorem d_Ma_floorMod_8 : decode c_Ma_floorMod 8 = .ok (.lconst 0, 1) := by decide +kernel
theorem d_Ma_floorMod_9 : decode c_Ma_floorMod 9 = .ok (.lcmp, 1) := by decide +kernel
theorem d_Ma_floorMod_10 : decode c_Ma_floorMod 10 = .ok (.ifCond .ge 15, 3) := by decide +kernel
theorem d_Ma_floorMod_13 : decode c_Ma_floorMod 13 = .ok (.lload 4, 2) := by decide +kernel
theorem d_Ma_floorMod_15 : decode c_Ma_floorMod 15 = .ok (.lconst 0, 1) := by decide +kernel
theorem d_Ma_floorMod_16 : decode c_Ma_floorMod 16 = .ok (.lcmp, 1) := by decide +kernel
theorem d_Ma_floorMod_17 : decode c_Ma_floorMod 17 = .ok (.ifCond .eq 8, 3) := by decide +kernel
theorem d_Ma_floorMod_20 : decode c_Ma_floorMod 20 = .ok (.lload 4, 2) := by decide +kernel
theorem d_Ma_floorMod_22 : decode c_Ma_floorMod 22 = .ok (.lload_n 2, 1) := by decide +kernel
theorem d_Ma_floorMod_23 : decode c_Ma_floorMod 23 = .ok (.ladd, 1) := by decide +kernel
theorem d_Ma_floorMod_24 : decode c_Ma_floorMod 24 = .ok (.lreturn, 1) := by decide +kernel
theorem d_Ma_floorMod_25 : decode c_Ma_floorMod 25 = .ok (.lload 4, 2) := by decide +kernel
theorem d_Ma_floorMod_27 : decode c_Ma_floorMod 27 = .ok (.lreturn, 1) := by decide +kernel
end
section
theorem d_Mo_init_0 : decode c_Mo_init 0 = .ok (.aload_n 0, 1) := by decide +kernel
theorem d_Mo_init_1 : decode c_Mo_init 1 = .ok (.invokespecial 1, 3) := by decide +kernel
theorem d_Mo_init_4 : decode c_Mo_init 4 = .ok (.aload_n 0, 1) := by decide +kernel
theorem d_Mo_init_5 : decode c_Mo_init 5 = .ok (.bipush 15, 2) := by decide +kernel
theorem d_Mo_init_7 : decode c_Mo_init 7 = .ok (.newarray .long, 2) := by decide +kernel
theorem d_Mo_init_9 : decode c_Mo_init 9 = .ok (.putfield 7, 3) := by decide +kernel
theorem d_Mo_init_12 : decode c_Mo_init 12 = .ok (.aload_n 0, 1) := by decide +kernel
theorem d_Mo_init_13 : decode c_Mo_init 13 = .ok (.bipush 7, 2) := by decide +kernel
theorem d_Mo_init_15 : decode c_Mo_init 15 = .ok (.newarray .long, 2) := by decide +kernel
theorem d_Mo_init_17 : decode c_Mo_init 17 = .ok (.putfield 13, 3) := by decide +kernel
theorem d_Mo_init_20 : decode c_Mo_init 20 = .ok (.aload_n 0, 1) := by decide +kernel
theorem d_Mo_init_21 : decode c_Mo_init 21 = .ok (.bipush 64, 2) := by decide +kernel
theorem d_Mo_init_23 : decode c_Mo_init 23 = .ok (.newarray .int, 2) := by decide +kernel
theorem d_Mo_init_25 : decode c_Mo_init 25 = .ok (.putfield 16, 3) := by decide +kernel
theorem d_Mo_init_28 : decode c_Mo_init 28 = .ok (.aload_n 0, 1) := by decide +kernel
theorem d_Mo_init_29 : decode c_Mo_init 29 = .ok (.iconst 3, 1) := by decide +kernel
theorem d_Mo_init_30 : decode c_Mo_init 30 = .ok (.newarray .int, 2) := by decide +kernel
theorem d_Mo_init_32 : decode c_Mo_init 32 = .ok (.putfield 20, 3) := by decide +kernel
theorem d_Mo_init_35 : decode c_Mo_init 35 = .ok (.aload_n 0, 1) := by decide +kernel
theorem d_Mo_init_36 : decode c_Mo_init 36 = .ok (.sipush 240, 3) := by decide +kernel
theorem d_Mo_init_39 : decode c_Mo_init 39 = .ok (.newarray .char, 2) := by decide +kernel
theorem d_Mo_init_41 : decode c_Mo_init 41 = .ok (.putfield 23, 3) := by decide +kernel
theorem d_Mo_init_44 : decode c_Mo_init 44 = .ok (.aload_n 0, 1) := by decide +kernel
theorem d_Mo_init_45 : decode c_Mo_init 45 = .ok (.iconst (-1), 1) := by decide +kernel
theorem d_Mo_init_46 : decode c_Mo_init 46 = .ok (.putfield 27, 3) := by decide +kernel
theorem d_Mo_init_49 : decode c_Mo_init 49 = .ok (.aload_n 0, 1) := by decide +kernel
theorem d_Mo_init_50 : decode c_Mo_init 50 = .ok (.bipush 64, 2) := by decide +kernel
theorem d_Mo_init_52 : decode c_Mo_init 52 = .ok (.newarray .int, 2) := by decide +kernel
theorem d_Mo_init_54 : decode c_Mo_init 54 = .ok (.putfield 31, 3) := by decide +kernel
theorem d_Mo_init_57 : decode c_Mo_init 57 = .ok (.aload_n 0, 1) := by decide +kernel
theorem d_Mo_init_58 : decode c_Mo_init 58 = .ok (.bipush 26, 2) := by decide +kernel
theorem d_Mo_init_60 : decode c_Mo_init 60 = .ok (.newarray .int, 2) := by decide +kernel
theorem d_Mo_init_62 : decode c_Mo_init 62 = .ok (.putfield 34, 3) := by decide +kernel
theorem d_Mo_init_65 : decode c_Mo_init 65 = .ok (.aload_n 0, 1) := by decide +kernel
theorem d_Mo_init_66 : decode c_Mo_init 66 = .ok (.bipush 64, 2) := by decide +kernel
theorem d_Mo_init_68 : decode c_Mo_init 68 = .ok (.newarray .int, 2) := by decide +kernel
theorem d_Mo_init_70 : decode c_Mo_init 70 = .ok (.putfield 37, 3) := by decide +kernel
theorem d_Mo_init_73 : decode c_Mo_init 73 = .ok (.aload_n 0, 1) := by decide +kernel
theorem d_Mo_init_74 : decode c_Mo_init 74 = .ok (.getfield 7, 3) := by decide +kernel
theorem d_Mo_init_77 : decode c_Mo_init 77 = .ok (.iconst 0, 1) := by decide +kernel
theorem d_Mo_init_78 : decode c_Mo_init 78 = .ok (.lconst 1, 1) := by decide +kernel
theorem d_Mo_init_79 : decode c_Mo_init 79 = .ok (.lastore, 1) := by decide +kernel
theorem d_Mo_init_80 : decode c_Mo_init 80 = .ok (.iconst 1, 1) := by decide +kernel
theorem d_Mo_init_81 : decode c_Mo_init 81 = .ok (.istore_n 1, 1) := by decide +kernel
theorem d_Mo_init_82 : decode c_Mo_init 82 = .ok (.iload_n 1, 1) := by decide +kernel
theorem d_Mo_init_83 : decode c_Mo_init 83 = .ok (.bipush 15, 2) := by decide +kernel
theorem d_Mo_init_85 : decode c_Mo_init 85 = .ok (.if_icmp .ge 27, 3) := by decide +kernel
theorem d_Mo_init_88 : decode c_Mo_init 88 = .ok (.aload_n 0, 1) := by decide +kernel
theorem d_Mo_init_89 : decode c_Mo_init 89 = .ok (.getfield 7, 3) := by decide +kernel
theorem d_Mo_init_92 : decode c_Mo_init 92 = .ok (.iload_n 1, 1) := by decide +kernel
theorem d_Mo_init_93 : decode c_Mo_init 93 = .ok (.ldc2_w 40, 3) := by decide +kernel
theorem d_Mo_init_96 : decode c_Mo_init 96 = .ok (.aload_n 0, 1) := by decide +kernel
theorem d_Mo_init_97 : decode c_Mo_init 97 = .ok (.getfield 7, 3) := by decide +kernel
theorem d_Mo_init_100 : decode c_Mo_init 100 = .ok (.iload_n 1, 1) := by decide +kernel
theorem d_Mo_init_101 : decode c_Mo_init 101 = .ok (.iconst 1, 1) := by decide +kernel
theorem d_Mo_init_102 : decode c_Mo_init 102 = .ok (.isub, 1) := by decide +kernel
theorem d_Mo_init_103 : decode c_Mo_init 103 = .ok (.laload, 1) := by decide +kernel
theorem d_Mo_init_104 : decode c_Mo_init 104 = .ok (.lmul, 1) := by decide +kernel
theorem d_Mo_init_105 : decode c_Mo_init 105 = .ok (.lastore, 1) := by decide +kernel
theorem d_Mo_init_106 : decode c_Mo_init 106 = .ok (.iinc 1 1, 3) := by decide +kernel
theorem d_Mo_init_109 : decode c_Mo_init 109 = .ok (.goto (-27), 3) := by decide +kernel
theorem d_Mo_init_112 : decode c_Mo_init 112 = .ok (.return_, 1) := by decide +kernel
theorem d_Mo_thrown_0 : decode c_Mo_thrown 0 = .ok (.aload_n 0, 1) := by decide +kernel
theorem d_Mo_thrown_1 : decode c_Mo_thrown 1 = .ok (.getfield 42, 3) := by decide +kernel
theorem d_Mo_thrown_4 : decode c_Mo_thrown 4 = .ok (.ireturn, 1) := by decide +kernel
theorem d_Mo_run_0 : decode c_Mo_run 0 = .ok (.aload_n 0, 1) := by decide +kernel
theorem d_Mo_run_1 : decode c_Mo_run 1 = .ok (.iload_n 1, 1) := by decide +kernel
theorem d_Mo_run_2 : decode c_Mo_run 2 = .ok (.ifCond .lt 10, 3) := by decide +kernel
theorem d_Mo_run_5 : decode c_Mo_run 5 = .ok (.iload_n 1, 1) := by decide +kernel
theorem d_Mo_run_6 : decode c_Mo_run 6 = .ok (.sipush 400, 3) := by decide +kernel
theorem d_Mo_run_9 : decode c_Mo_run 9 = .ok (.if_icmp .le 7, 3) := by decide +kernel
theorem d_Mo_run_12 : decode c_Mo_run 12 = .ok (.iconst 1, 1) := by decide +kernel
theorem d_Mo_run_13 : decode c_Mo_run 13 = .ok (.goto 4, 3) := by decide +kernel
theorem d_Mo_run_16 : decode c_Mo_run 16 = .ok (.iconst 0, 1) := by decide +kernel
theorem d_Mo_run_17 : decode c_Mo_run 17 = .ok (.putfield 42, 3) := by decide +kernel
theorem d_Mo_run_20 : decode c_Mo_run 20 = .ok (.aload_n 0, 1) := by decide +kernel
theorem d_Mo_run_21 : decode c_Mo_run 21 = .ok (.getfield 42, 3) := by decide +kernel
theorem d_Mo_run_24 : decode c_Mo_run 24 = .ok (.ifCond .eq 5, 3) := by decide +kernel
theorem d_Mo_run_27 : decode c_Mo_run 27 = .ok (.iconst 0, 1) := by decide +kernel
theorem d_Mo_run_28 : decode c_Mo_run 28 = .ok (.ireturn, 1) := by decide +kernel
theorem d_Mo_run_29 : decode c_Mo_run 29 = .ok (.aload_n 0, 1) := by decide +kernel
theorem d_Mo_run_30 : decode c_Mo_run 30 = .ok (.iconst 0, 1) := by decide +kernel
theorem d_Mo_run_31 : decode c_Mo_run 31 = .ok (.putfield 90, 3) := by decide +kernel
theorem d_Mo_run_34 : decode c_Mo_run 34 = .ok (.iconst 0, 1) := by decide +kernel
theorem d_Mo_run_35 : decode c_Mo_run 35 = .ok (.istore_n 2, 1) := by decide +kernel
theorem d_Mo_run_36 : decode c_Mo_run 36 = .ok (.iload_n 2, 1) := by decide +kernel
theorem d_Mo_run_37 : decode c_Mo_run 37 = .ok (.iload_n 1, 1) := by decide +kernel
theorem d_Mo_run_38 : decode c_Mo_run 38 = .ok (.if_icmp .ge 20, 3) := by decide +kernel
theorem d_Mo_run_41 : decode c_Mo_run 41 = .ok (.aload_n 0, 1) := by decide +kernel
theorem d_Mo_run_42 : decode c_Mo_run 42 = .ok (.getfield 90, 3) := by decide +kernel
theorem d_Mo_run_45 : decode c_Mo_run 45 = .ok (.ifCond .ne 13, 3) := by decide +kernel
theorem d_Mo_run_48 : decode c_Mo_run 48 = .ok (.aload_n 0, 1) := by decide +kernel
theorem d_Mo_run_49 : decode c_Mo_run 49 = .ok (.invokevirtual 108, 3) := by decide +kernel
theorem d_Mo_run_52 : decode c_Mo_run 52 = .ok (.iinc 2 1, 3) := by decide +kernel
theorem d_Mo_run_55 : decode c_Mo_run 55 = .ok (.goto (-19), 3) := by decide +kernel
theorem d_Mo_run_58 : decode c_Mo_run 58 = .ok (.iload_n 2, 1) := by decide +kernel
theorem d_Mo_run_59 : decode c_Mo_run 59 = .ok (.ireturn, 1) := by decide +kernel
theorem d_Mo_step_0 : decode c_Mo_step 0 = .ok (.aload_n 0, 1) := by decide +kernel
theorem d_Mo_step_1 : decode c_Mo_step 1 = .ok (.getfield 16, 3) := by decide +kernel
theorem d_Mo_step_4 : decode c_Mo_step 4 = .ok (.aload_n 0, 1) := by decide +kernel
theorem d_Mo_step_5 : decode c_Mo_step 5 = .ok (.getfield 84, 3) := by decide +kernel
theorem d_Mo_step_8 : decode c_Mo_step 8 = .ok (.iaload, 1) := by decide +kernel
theorem d_Mo_step_9 : decode c_Mo_step 9 = .ok (.istore_n 1, 1) := by decide +kernel
theorem d_Mo_step_10 : decode c_Mo_step 10 = .ok (.aload_n 0, 1) := by decide +kernel
theorem d_Mo_step_11 : decode c_Mo_step 11 = .ok (.getfield 84, 3) := by decide +kernel
theorem d_Mo_step_14 : decode c_Mo_step 14 = .ok (.istore_n 2, 1) := by decide +kernel
theorem d_Mo_step_15 : decode c_Mo_step 15 = .ok (.aload_n 0, 1) := by decide +kernel
theorem d_Mo_step_16 : decode c_Mo_step 16 = .ok (.getfield 59, 3) := by decide +kernel
theorem d_Mo_step_19 : decode c_Mo_step 19 = .ok (.istore_n 3, 1) := by decide +kernel
theorem d_Mo_step_20 : decode c_Mo_step 20 = .ok (.aload_n 0, 1) := by decide +kernel
theorem d_Mo_step_21 : decode c_Mo_step 21 = .ok (.aload_n 0, 1) := by decide +kernel
theorem d_Mo_step_22 : decode c_Mo_step 22 = .ok (.getfield 84, 3) := by decide +kernel
theorem d_Mo_step_25 : decode c_Mo_step 25 = .ok (.bipush 63, 2) := by decide +kernel
theorem d_Mo_step_27 : decode c_Mo_step 27 = .ok (.if_icmp .ne 7, 3) := by decide +kernel
theorem d_Mo_step_30 : decode c_Mo_step 30 = .ok (.iconst 0, 1) := by decide +kernel
theorem d_Mo_step_31 : decode c_Mo_step 31 = .ok (.goto 9, 3) := by decide +kernel
theorem d_Mo_step_34 : decode c_Mo_step 34 = .ok (.aload_n 0, 1) := by decide +kernel
theorem d_Mo_step_35 : decode c_Mo_step 35 = .ok (.getfield 84, 3) := by decide +kernel
theorem d_Mo_step_38 : decode c_Mo_step 38 = .ok (.iconst 1, 1) := by decide +kernel
theorem d_Mo_step_39 : decode c_Mo_step 39 = .ok (.iadd, 1) := by decide +kernel
theorem d_Mo_step_40 : decode c_Mo_step 40 = .ok (.putfield 84, 3) := by decide +kernel
theorem d_Mo_step_43 : decode c_Mo_step 43 = .ok (.aload_n 0, 1) := by decide +kernel
theorem d_Mo_step_44 : decode c_Mo_step 44 = .ok (.iconst 0, 1) := by decide +kernel
theorem d_Mo_step_45 : decode c_Mo_step 45 = .ok (.putfield 59, 3) := by decide +kernel
theorem d_Mo_step_48 : decode c_Mo_step 48 = .ok (.iload_n 1, 1) := by decide +kernel
theorem d_Mo_step_49 : decode c_Mo_step 49 = .ok (.iconst 4, 1) := by decide +kernel
theorem d_Mo_step_50 : decode c_Mo_step 50 = .ok (.irem, 1) := by decide +kernel
theorem d_Mo_step_51 : decode c_Mo_step 51 = .ok (.istore 4, 2) := by decide +kernel
theorem d_Mo_step_53 : decode c_Mo_step 53 = .ok (.iload_n 1, 1) := by decide +kernel
theorem d_Mo_step_54 : decode c_Mo_step 54 = .ok (.iconst 4, 1) := by decide +kernel
theorem d_Mo_step_55 : decode c_Mo_step 55 = .ok (.idiv, 1) := by decide +kernel
theorem d_Mo_step_56 : decode c_Mo_step 56 = .ok (.bipush 64, 2) := by decide +kernel
theorem d_Mo_step_58 : decode c_Mo_step 58 = .ok (.irem, 1) := by decide +kernel
theorem d_Mo_step_59 : decode c_Mo_step 59 = .ok (.istore 5, 2) := by decide +kernel
theorem d_Mo_step_61 : decode c_Mo_step 61 = .ok (.iload 4, 2) := by decide +kernel
theorem d_Mo_step_63 : decode c_Mo_step 63 = .ok (.iconst 1, 1) := by decide +kernel
theorem d_Mo_step_64 : decode c_Mo_step 64 = .ok (.if_icmp .ne 20, 3) := by decide +kernel
theorem d_Mo_step_67 : decode c_Mo_step 67 = .ok (.aload_n 0, 1) := by decide +kernel
theorem d_Mo_step_68 : decode c_Mo_step 68 = .ok (.aload_n 0, 1) := by decide +kernel
theorem d_Mo_step_69 : decode c_Mo_step 69 = .ok (.getfield 84, 3) := by decide +kernel
theorem d_Mo_step_72 : decode c_Mo_step 72 = .ok (.putfield 81, 3) := by decide +kernel
theorem d_Mo_step_75 : decode c_Mo_step 75 = .ok (.aload_n 0, 1) := by decide +kernel
theorem d_Mo_step_76 : decode c_Mo_step 76 = .ok (.iload 5, 2) := by decide +kernel
theorem d_Mo_step_78 : decode c_Mo_step 78 = .ok (.putfield 84, 3) := by decide +kernel
theorem d_Mo_step_81 : decode c_Mo_step 81 = .ok (.goto 125, 3) := by decide +kernel
theorem d_Mo_step_84 : decode c_Mo_step 84 = .ok (.iload 4, 2) := by decide +kernel
theorem d_Mo_step_86 : decode c_Mo_step 86 = .ok (.iconst 3, 1) := by decide +kernel
theorem d_Mo_step_87 : decode c_Mo_step 87 = .ok (.if_icmp .ne 16, 3) := by decide +kernel
theorem d_Mo_step_90 : decode c_Mo_step 90 = .ok (.iload_n 3, 1) := by decide +kernel
theorem d_Mo_step_91 : decode c_Mo_step 91 = .ok (.ifCond .ne 115, 3) := by decide +kernel
theorem d_Mo_step_94 : decode c_Mo_step 94 = .ok (.aload_n 0, 1) := by decide +kernel
theorem d_Mo_step_95 : decode c_Mo_step 95 = .ok (.iload 5, 2) := by decide +kernel
theorem d_Mo_step_97 : decode c_Mo_step 97 = .ok (.putfield 84, 3) := by decide +kernel
theorem d_Mo_step_100 : decode c_Mo_step 100 = .ok (.goto 106, 3) := by decide +kernel
theorem d_Mo_step_103 : decode c_Mo_step 103 = .ok (.iload 4, 2) := by decide +kernel
theorem d_Mo_step_105 : decode c_Mo_step 105 = .ok (.iconst 2, 1) := by decide +kernel
theorem d_Mo_step_106 : decode c_Mo_step 106 = .ok (.if_icmp .ne 65, 3) := by decide +kernel
theorem d_Mo_step_109 : decode c_Mo_step 109 = .ok (.aload_n 0, 1) := by decide +kernel
theorem d_Mo_step_110 : decode c_Mo_step 110 = .ok (.iload_n 1, 1) := by decide +kernel
theorem d_Mo_step_111 : decode c_Mo_step 111 = .ok (.iconst 4, 1) := by decide +kernel
theorem d_Mo_step_112 : decode c_Mo_step 112 = .ok (.idiv, 1) := by decide +kernel
theorem d_Mo_step_113 : decode c_Mo_step 113 = .ok (.bipush 8, 2) := by decide +kernel
theorem d_Mo_step_115 : decode c_Mo_step 115 = .ok (.irem, 1) := by decide +kernel
theorem d_Mo_step_116 : decode c_Mo_step 116 = .ok (.invokevirtual 77, 3) := by decide +kernel
theorem d_Mo_step_119 : decode c_Mo_step 119 = .ok (.iload_n 1, 1) := by decide +kernel
theorem d_Mo_step_120 : decode c_Mo_step 120 = .ok (.bipush 32, 2) := by decide +kernel
theorem d_Mo_step_122 : decode c_Mo_step 122 = .ok (.idiv, 1) := by decide +kernel
theorem d_Mo_step_123 : decode c_Mo_step 123 = .ok (.istore 6, 2) := by decide +kernel
theorem d_Mo_step_125 : decode c_Mo_step 125 = .ok (.iload 6, 2) := by decide +kernel
theorem d_Mo_step_127 : decode c_Mo_step 127 = .ok (.bipush 8, 2) := by decide +kernel
theorem d_Mo_step_129 : decode c_Mo_step 129 = .ok (.if_icmp .lt 24, 3) := by decide +kernel
theorem d_Mo_step_132 : decode c_Mo_step 132 = .ok (.iload 6, 2) := by decide +kernel
theorem d_Mo_step_134 : decode c_Mo_step 134 = .ok (.bipush 19, 2) := by decide +kernel
theorem d_Mo_step_136 : decode c_Mo_step 136 = .ok (.if_icmp .le 10, 3) := by decide +kernel
theorem d_Mo_step_139 : decode c_Mo_step 139 = .ok (.iload 6, 2) := by decide +kernel
theorem d_Mo_step_141 : decode c_Mo_step 141 = .ok (.bipush 24, 2) := by decide +kernel
theorem d_Mo_step_143 : decode c_Mo_step 143 = .ok (.if_icmp .lt 10, 3) := by decide +kernel
theorem d_Mo_step_146 : decode c_Mo_step 146 = .ok (.iload 6, 2) := by decide +kernel
theorem d_Mo_step_148 : decode c_Mo_step 148 = .ok (.bipush 31, 2) := by decide +kernel
theorem d_Mo_step_150 : decode c_Mo_step 150 = .ok (.if_icmp .ne 12, 3) := by decide +kernel
theorem d_Mo_step_153 : decode c_Mo_step 153 = .ok (.aload_n 0, 1) := by decide +kernel
theorem d_Mo_step_154 : decode c_Mo_step 154 = .ok (.iload 6, 2) := by decide +kernel
theorem d_Mo_step_156 : decode c_Mo_step 156 = .ok (.invokevirtual 96, 3) := by decide +kernel
theorem d_Mo_step_159 : decode c_Mo_step 159 = .ok (.goto 9, 3) := by decide +kernel
theorem d_Mo_step_162 : decode c_Mo_step 162 = .ok (.aload_n 0, 1) := by decide +kernel
theorem d_Mo_step_163 : decode c_Mo_step 163 = .ok (.iload 6, 2) := by decide +kernel
theorem d_Mo_step_165 : decode c_Mo_step 165 = .ok (.invokevirtual 99, 3) := by decide +kernel
theorem d_Mo_step_168 : decode c_Mo_step 168 = .ok (.goto 38, 3) := by decide +kernel
theorem d_Mo_step_171 : decode c_Mo_step 171 = .ok (.iload_n 1, 1) := by decide +kernel
theorem d_Mo_step_172 : decode c_Mo_step 172 = .ok (.iconst 4, 1) := by decide +kernel
theorem d_Mo_step_173 : decode c_Mo_step 173 = .ok (.idiv, 1) := by decide +kernel
theorem d_Mo_step_174 : decode c_Mo_step 174 = .ok (.bipush 16, 2) := by decide +kernel
theorem d_Mo_step_176 : decode c_Mo_step 176 = .ok (.irem, 1) := by decide +kernel
theorem d_Mo_step_177 : decode c_Mo_step 177 = .ok (.istore 6, 2) := by decide +kernel
theorem d_Mo_step_179 : decode c_Mo_step 179 = .ok (.iload 6, 2) := by decide +kernel
theorem d_Mo_step_181 : decode c_Mo_step 181 = .ok (.bipush 9, 2) := by decide +kernel
theorem d_Mo_step_183 : decode c_Mo_step 183 = .ok (.if_icmp .ge 16, 3) := by decide +kernel
theorem d_Mo_step_186 : decode c_Mo_step 186 = .ok (.aload_n 0, 1) := by decide +kernel
theorem d_Mo_step_187 : decode c_Mo_step 187 = .ok (.iload 6, 2) := by decide +kernel
theorem d_Mo_step_189 : decode c_Mo_step 189 = .ok (.iload_n 1, 1) := by decide +kernel
theorem d_Mo_step_190 : decode c_Mo_step 190 = .ok (.bipush 64, 2) := by decide +kernel
theorem d_Mo_step_192 : decode c_Mo_step 192 = .ok (.idiv, 1) := by decide +kernel
theorem d_Mo_step_193 : decode c_Mo_step 193 = .ok (.invokevirtual 102, 3) := by decide +kernel
theorem d_Mo_step_196 : decode c_Mo_step 196 = .ok (.goto 10, 3) := by decide +kernel
theorem d_Mo_step_199 : decode c_Mo_step 199 = .ok (.aload_n 0, 1) := by decide +kernel
theorem d_Mo_step_200 : decode c_Mo_step 200 = .ok (.iload 6, 2) := by decide +kernel
theorem d_Mo_step_202 : decode c_Mo_step 202 = .ok (.iload_n 2, 1) := by decide +kernel
theorem d_Mo_step_203 : decode c_Mo_step 203 = .ok (.invokevirtual 105, 3) := by decide +kernel
theorem d_Mo_step_206 : decode c_Mo_step 206 = .ok (.return_, 1) := by decide +kernel
theorem d_Mo_field_0 : decode c_Mo_field 0 = .ok (.iload_n 1, 1) := by decide +kernel
theorem d_Mo_field_1 : decode c_Mo_field 1 = .ok (.ifCond .ne 10, 3) := by decide +kernel
theorem d_Mo_field_4 : decode c_Mo_field 4 = .ok (.aload_n 0, 1) := by decide +kernel
theorem d_Mo_field_5 : decode c_Mo_field 5 = .ok (.getfield 45, 3) := by decide +kernel
theorem d_Mo_field_8 : decode c_Mo_field 8 = .ok (.goto 38, 3) := by decide +kernel
theorem d_Mo_field_11 : decode c_Mo_field 11 = .ok (.iload_n 1, 1) := by decide +kernel
theorem d_Mo_field_12 : decode c_Mo_field 12 = .ok (.iconst 2, 1) := by decide +kernel
theorem d_Mo_field_13 : decode c_Mo_field 13 = .ok (.if_icmp .ne 7, 3) := by decide +kernel
theorem d_Mo_field_16 : decode c_Mo_field 16 = .ok (.iconst 2, 1) := by decide +kernel
theorem d_Mo_field_17 : decode c_Mo_field 17 = .ok (.goto 29, 3) := by decide +kernel
theorem d_Mo_field_20 : decode c_Mo_field 20 = .ok (.iload_n 1, 1) := by decide +kernel
theorem d_Mo_field_21 : decode c_Mo_field 21 = .ok (.iconst 4, 1) := by decide +kernel
theorem d_Mo_field_22 : decode c_Mo_field 22 = .ok (.if_icmp .ne 8, 3) := by decide +kernel
theorem d_Mo_field_25 : decode c_Mo_field 25 = .ok (.bipush 13, 2) := by decide +kernel
theorem d_Mo_field_27 : decode c_Mo_field 27 = .ok (.goto 19, 3) := by decide +kernel
theorem d_Mo_field_30 : decode c_Mo_field 30 = .ok (.iload_n 1, 1) := by decide +kernel
theorem d_Mo_field_31 : decode c_Mo_field 31 = .ok (.iconst 5, 1) := by decide +kernel
theorem d_Mo_field_32 : decode c_Mo_field 32 = .ok (.if_icmp .eq 9, 3) := by decide +kernel
theorem d_Mo_field_35 : decode c_Mo_field 35 = .ok (.iload_n 1, 1) := by decide +kernel
theorem d_Mo_field_36 : decode c_Mo_field 36 = .ok (.bipush 6, 2) := by decide +kernel
theorem d_Mo_field_38 : decode c_Mo_field 38 = .ok (.if_icmp .ne 7, 3) := by decide +kernel
theorem d_Mo_field_41 : decode c_Mo_field 41 = .ok (.iconst 3, 1) := by decide +kernel
theorem d_Mo_field_42 : decode c_Mo_field 42 = .ok (.goto 4, 3) := by decide +kernel
theorem d_Mo_field_45 : decode c_Mo_field 45 = .ok (.iconst 0, 1) := by decide +kernel
theorem d_Mo_field_46 : decode c_Mo_field 46 = .ok (.istore_n 2, 1) := by decide +kernel
theorem d_Mo_field_47 : decode c_Mo_field 47 = .ok (.iload_n 1, 1) := by decide +kernel
theorem d_Mo_field_48 : decode c_Mo_field 48 = .ok (.ifCond .eq 8, 3) := by decide +kernel
theorem d_Mo_field_51 : decode c_Mo_field 51 = .ok (.iload_n 1, 1) := by decide +kernel
theorem d_Mo_field_52 : decode c_Mo_field 52 = .ok (.iconst 1, 1) := by decide +kernel
theorem d_Mo_field_53 : decode c_Mo_field 53 = .ok (.if_icmp .ne 10, 3) := by decide +kernel
theorem d_Mo_field_56 : decode c_Mo_field 56 = .ok (.aload_n 0, 1) := by decide +kernel
theorem d_Mo_field_57 : decode c_Mo_field 57 = .ok (.getfield 45, 3) := by decide +kernel
theorem d_Mo_field_60 : decode c_Mo_field 60 = .ok (.goto 29, 3) := by decide +kernel
theorem d_Mo_field_63 : decode c_Mo_field 63 = .ok (.iload_n 1, 1) := by decide +kernel
theorem d_Mo_field_64 : decode c_Mo_field 64 = .ok (.iconst 2, 1) := by decide +kernel
theorem d_Mo_field_65 : decode c_Mo_field 65 = .ok (.if_icmp .eq 8, 3) := by decide +kernel
theorem d_Mo_field_68 : decode c_Mo_field 68 = .ok (.iload_n 1, 1) := by decide +kernel
theorem d_Mo_field_69 : decode c_Mo_field 69 = .ok (.iconst 3, 1) := by decide +kernel
theorem d_Mo_field_70 : decode c_Mo_field 70 = .ok (.if_icmp .ne 7, 3) := by decide +kernel
theorem d_Mo_field_73 : decode c_Mo_field 73 = .ok (.iconst 2, 1) := by decide +kernel
theorem d_Mo_field_74 : decode c_Mo_field 74 = .ok (.goto 15, 3) := by decide +kernel
theorem d_Mo_field_77 : decode c_Mo_field 77 = .ok (.iload_n 1, 1) := by decide +kernel
theorem d_Mo_field_78 : decode c_Mo_field 78 = .ok (.iconst 5, 1) := by decide +kernel
theorem d_Mo_field_79 : decode c_Mo_field 79 = .ok (.if_icmp .ne 8, 3) := by decide +kernel
theorem d_Mo_field_82 : decode c_Mo_field 82 = .ok (.bipush 12, 2) := by decide +kernel
theorem d_Mo_field_84 : decode c_Mo_field 84 = .ok (.goto 5, 3) := by decide +kernel
theorem d_Mo_field_87 : decode c_Mo_field 87 = .ok (.bipush 13, 2) := by decide +kernel
theorem d_Mo_field_89 : decode c_Mo_field 89 = .ok (.istore_n 3, 1) := by decide +kernel
theorem d_Mo_field_90 : decode c_Mo_field 90 = .ok (.aload_n 0, 1) := by decide +kernel
theorem d_Mo_field_91 : decode c_Mo_field 91 = .ok (.aload_n 0, 1) := by decide +kernel
theorem d_Mo_field_92 : decode c_Mo_field 92 = .ok (.getfield 7, 3) := by decide +kernel
theorem d_Mo_field_95 : decode c_Mo_field 95 = .ok (.iload_n 2, 1) := by decide +kernel
theorem d_Mo_field_96 : decode c_Mo_field 96 = .ok (.laload, 1) := by decide +kernel
theorem d_Mo_field_97 : decode c_Mo_field 97 = .ok (.putfield 48, 3) := by decide +kernel
theorem d_Mo_field_100 : decode c_Mo_field 100 = .ok (.aload_n 0, 1) := by decide +kernel
theorem d_Mo_field_101 : decode c_Mo_field 101 = .ok (.aload_n 0, 1) := by decide +kernel
theorem d_Mo_field_102 : decode c_Mo_field 102 = .ok (.getfield 7, 3) := by decide +kernel
theorem d_Mo_field_105 : decode c_Mo_field 105 = .ok (.iload_n 3, 1) := by decide +kernel
theorem d_Mo_field_106 : decode c_Mo_field 106 = .ok (.iload_n 2, 1) := by decide +kernel
theorem d_Mo_field_107 : decode c_Mo_field 107 = .ok (.isub, 1) := by decide +kernel
theorem d_Mo_field_108 : decode c_Mo_field 108 = .ok (.iconst 1, 1) := by decide +kernel
theorem d_Mo_field_109 : decode c_Mo_field 109 = .ok (.iadd, 1) := by decide +kernel
theorem d_Mo_field_110 : decode c_Mo_field 110 = .ok (.laload, 1) := by decide +kernel
theorem d_Mo_field_111 : decode c_Mo_field 111 = .ok (.putfield 52, 3) := by decide +kernel
theorem d_Mo_field_114 : decode c_Mo_field 114 = .ok (.return_, 1) := by decide +kernel
theorem d_Mo_move_0 : decode c_Mo_move 0 = .ok (.iload_n 1, 1) := by decide +kernel
theorem d_Mo_move_1 : decode c_Mo_move 1 = .ok (.tableswitch 218 0 23 #[111, 111, 111, 120, 129, 142, 151, 164, 218, 218, 218, 218, 218, 218, 218, 218, 218, 218, 218, 218, 173, 195, 195, 195], 111) := by decide +kernel
theorem d_Mo_move_112 : decode c_Mo_move 112 = .ok (.aload_n 0, 1) := by decide +kernel
theorem d_Mo_move_113 : decode c_Mo_move 113 = .ok (.iload_n 1, 1) := by decide +kernel
theorem d_Mo_move_114 : decode c_Mo_move 114 = .ok (.lconst 0, 1) := by decide +kernel
theorem d_Mo_move_115 : decode c_Mo_move 115 = .ok (.invokevirtual 63, 3) := by decide +kernel
theorem d_Mo_move_118 : decode c_Mo_move 118 = .ok (.goto 111, 3) := by decide +kernel
theorem d_Mo_move_121 : decode c_Mo_move 121 = .ok (.aload_n 0, 1) := by decide +kernel
theorem d_Mo_move_122 : decode c_Mo_move 122 = .ok (.iconst 0, 1) := by decide +kernel
theorem d_Mo_move_123 : decode c_Mo_move 123 = .ok (.iconst 1, 1) := by decide +kernel
theorem d_Mo_move_124 : decode c_Mo_move 124 = .ok (.invokevirtual 67, 3) := by decide +kernel
theorem d_Mo_move_127 : decode c_Mo_move 127 = .ok (.goto 102, 3) := by decide +kernel
theorem d_Mo_move_130 : decode c_Mo_move 130 = .ok (.aload_n 0, 1) := by decide +kernel
theorem d_Mo_move_131 : decode c_Mo_move 131 = .ok (.iconst 1, 1) := by decide +kernel
theorem d_Mo_move_132 : decode c_Mo_move 132 = .ok (.aload_n 0, 1) := by decide +kernel
theorem d_Mo_move_133 : decode c_Mo_move 133 = .ok (.iconst 0, 1) := by decide +kernel
theorem d_Mo_move_134 : decode c_Mo_move 134 = .ok (.invokevirtual 55, 3) := by decide +kernel
theorem d_Mo_move_137 : decode c_Mo_move 137 = .ok (.invokevirtual 63, 3) := by decide +kernel
theorem d_Mo_move_140 : decode c_Mo_move 140 = .ok (.goto 89, 3) := by decide +kernel
theorem d_Mo_move_143 : decode c_Mo_move 143 = .ok (.aload_n 0, 1) := by decide +kernel
theorem d_Mo_move_144 : decode c_Mo_move 144 = .ok (.iconst 0, 1) := by decide +kernel
theorem d_Mo_move_145 : decode c_Mo_move 145 = .ok (.iconst 2, 1) := by decide +kernel
theorem d_Mo_move_146 : decode c_Mo_move 146 = .ok (.invokevirtual 67, 3) := by decide +kernel
theorem d_Mo_move_149 : decode c_Mo_move 149 = .ok (.goto 80, 3) := by decide +kernel
theorem d_Mo_move_152 : decode c_Mo_move 152 = .ok (.aload_n 0, 1) := by decide +kernel
theorem d_Mo_move_153 : decode c_Mo_move 153 = .ok (.iconst 2, 1) := by decide +kernel
theorem d_Mo_move_154 : decode c_Mo_move 154 = .ok (.aload_n 0, 1) := by decide +kernel
theorem d_Mo_move_155 : decode c_Mo_move 155 = .ok (.iconst 1, 1) := by decide +kernel
theorem d_Mo_move_156 : decode c_Mo_move 156 = .ok (.invokevirtual 55, 3) := by decide +kernel
theorem d_Mo_move_159 : decode c_Mo_move 159 = .ok (.invokevirtual 63, 3) := by decide +kernel
theorem d_Mo_move_162 : decode c_Mo_move 162 = .ok (.goto 67, 3) := by decide +kernel
theorem d_Mo_move_165 : decode c_Mo_move 165 = .ok (.aload_n 0, 1) := by decide +kernel
theorem d_Mo_move_166 : decode c_Mo_move 166 = .ok (.iconst 1, 1) := by decide +kernel
theorem d_Mo_move_167 : decode c_Mo_move 167 = .ok (.iconst 2, 1) := by decide +kernel
theorem d_Mo_move_168 : decode c_Mo_move 168 = .ok (.invokevirtual 67, 3) := by decide +kernel
theorem d_Mo_move_171 : decode c_Mo_move 171 = .ok (.goto 58, 3) := by decide +kernel
theorem d_Mo_move_174 : decode c_Mo_move 174 = .ok (.aload_n 0, 1) := by decide +kernel
theorem d_Mo_move_175 : decode c_Mo_move 175 = .ok (.iconst 0, 1) := by decide +kernel
theorem d_Mo_move_176 : decode c_Mo_move 176 = .ok (.aload_n 0, 1) := by decide +kernel
theorem d_Mo_move_177 : decode c_Mo_move 177 = .ok (.iconst 0, 1) := by decide +kernel
theorem d_Mo_move_178 : decode c_Mo_move 178 = .ok (.invokevirtual 55, 3) := by decide +kernel
theorem d_Mo_move_181 : decode c_Mo_move 181 = .ok (.ldc2_w 40, 3) := by decide +kernel
theorem d_Mo_move_184 : decode c_Mo_move 184 = .ok (.lmul, 1) := by decide +kernel
theorem d_Mo_move_185 : decode c_Mo_move 185 = .ok (.aload_n 0, 1) := by decide +kernel
theorem d_Mo_move_186 : decode c_Mo_move 186 = .ok (.getfield 52, 3) := by decide +kernel
theorem d_Mo_move_189 : decode c_Mo_move 189 = .ok (.lrem, 1) := by decide +kernel
theorem d_Mo_move_190 : decode c_Mo_move 190 = .ok (.invokevirtual 63, 3) := by decide +kernel
theorem d_Mo_move_193 : decode c_Mo_move 193 = .ok (.goto 36, 3) := by decide +kernel
theorem d_Mo_move_196 : decode c_Mo_move 196 = .ok (.aload_n 0, 1) := by decide +kernel
theorem d_Mo_move_197 : decode c_Mo_move 197 = .ok (.iload_n 1, 1) := by decide +kernel
theorem d_Mo_move_198 : decode c_Mo_move 198 = .ok (.bipush 21, 2) := by decide +kernel
theorem d_Mo_move_200 : decode c_Mo_move 200 = .ok (.isub, 1) := by decide +kernel
theorem d_Mo_move_201 : decode c_Mo_move 201 = .ok (.aload_n 0, 1) := by decide +kernel
theorem d_Mo_move_202 : decode c_Mo_move 202 = .ok (.iload_n 1, 1) := by decide +kernel
theorem d_Mo_move_203 : decode c_Mo_move 203 = .ok (.bipush 21, 2) := by decide +kernel
theorem d_Mo_move_205 : decode c_Mo_move 205 = .ok (.isub, 1) := by decide +kernel
theorem d_Mo_move_206 : decode c_Mo_move 206 = .ok (.invokevirtual 55, 3) := by decide +kernel
theorem d_Mo_move_209 : decode c_Mo_move 209 = .ok (.ldc2_w 40, 3) := by decide +kernel
theorem d_Mo_move_212 : decode c_Mo_move 212 = .ok (.ldiv, 1) := by decide +kernel
theorem d_Mo_move_213 : decode c_Mo_move 213 = .ok (.invokevirtual 63, 3) := by decide +kernel
theorem d_Mo_move_216 : decode c_Mo_move 216 = .ok (.goto 13, 3) := by decide +kernel
theorem d_Mo_move_219 : decode c_Mo_move 219 = .ok (.aload_n 0, 1) := by decide +kernel
theorem d_Mo_move_220 : decode c_Mo_move 220 = .ok (.iconst 0, 1) := by decide +kernel
theorem d_Mo_move_221 : decode c_Mo_move 221 = .ok (.aload_n 0, 1) := by decide +kernel
theorem d_Mo_move_222 : decode c_Mo_move 222 = .ok (.iconst 2, 1) := by decide +kernel
theorem d_Mo_move_223 : decode c_Mo_move 223 = .ok (.invokevirtual 55, 3) := by decide +kernel
theorem d_Mo_move_226 : decode c_Mo_move 226 = .ok (.invokevirtual 63, 3) := by decide +kernel
theorem d_Mo_move_229 : decode c_Mo_move 229 = .ok (.return_, 1) := by decide +kernel
theorem d_Mo_write_0 : decode c_Mo_write 0 = .ok (.aload_n 0, 1) := by decide +kernel
theorem d_Mo_write_1 : decode c_Mo_write 1 = .ok (.getfield 13, 3) := by decide +kernel
theorem d_Mo_write_4 : decode c_Mo_write 4 = .ok (.iload_n 1, 1) := by decide +kernel
theorem d_Mo_write_5 : decode c_Mo_write 5 = .ok (.aload_n 0, 1) := by decide +kernel
theorem d_Mo_write_6 : decode c_Mo_write 6 = .ok (.getfield 13, 3) := by decide +kernel
theorem d_Mo_write_9 : decode c_Mo_write 9 = .ok (.iload_n 1, 1) := by decide +kernel
theorem d_Mo_write_10 : decode c_Mo_write 10 = .ok (.laload, 1) := by decide +kernel
theorem d_Mo_write_11 : decode c_Mo_write 11 = .ok (.lload_n 2, 1) := by decide +kernel
theorem d_Mo_write_12 : decode c_Mo_write 12 = .ok (.aload_n 0, 1) := by decide +kernel
theorem d_Mo_write_13 : decode c_Mo_write 13 = .ok (.iload_n 1, 1) := by decide +kernel
theorem d_Mo_write_14 : decode c_Mo_write 14 = .ok (.invokevirtual 55, 3) := by decide +kernel
theorem d_Mo_write_17 : decode c_Mo_write 17 = .ok (.lsub, 1) := by decide +kernel
theorem d_Mo_write_18 : decode c_Mo_write 18 = .ok (.aload_n 0, 1) := by decide +kernel
theorem d_Mo_write_19 : decode c_Mo_write 19 = .ok (.getfield 48, 3) := by decide +kernel
theorem d_Mo_write_22 : decode c_Mo_write 22 = .ok (.lmul, 1) := by decide +kernel
theorem d_Mo_write_23 : decode c_Mo_write 23 = .ok (.ladd, 1) := by decide +kernel
theorem d_Mo_write_24 : decode c_Mo_write 24 = .ok (.lastore, 1) := by decide +kernel
theorem d_Mo_write_25 : decode c_Mo_write 25 = .ok (.return_, 1) := by decide +kernel
theorem d_Mo_part_0 : decode c_Mo_part 0 = .ok (.aload_n 0, 1) := by decide +kernel
theorem d_Mo_part_1 : decode c_Mo_part 1 = .ok (.getfield 13, 3) := by decide +kernel
theorem d_Mo_part_4 : decode c_Mo_part 4 = .ok (.iload_n 1, 1) := by decide +kernel
theorem d_Mo_part_5 : decode c_Mo_part 5 = .ok (.laload, 1) := by decide +kernel
theorem d_Mo_part_6 : decode c_Mo_part 6 = .ok (.aload_n 0, 1) := by decide +kernel
theorem d_Mo_part_7 : decode c_Mo_part 7 = .ok (.getfield 48, 3) := by decide +kernel
theorem d_Mo_part_10 : decode c_Mo_part 10 = .ok (.ldiv, 1) := by decide +kernel
theorem d_Mo_part_11 : decode c_Mo_part 11 = .ok (.aload_n 0, 1) := by decide +kernel
theorem d_Mo_part_12 : decode c_Mo_part 12 = .ok (.getfield 52, 3) := by decide +kernel
theorem d_Mo_part_15 : decode c_Mo_part 15 = .ok (.lrem, 1) := by decide +kernel
theorem d_Mo_part_16 : decode c_Mo_part 16 = .ok (.lreturn, 1) := by decide +kernel
theorem d_Mo_change_0 : decode c_Mo_change 0 = .ok (.aload_n 0, 1) := by decide +kernel
theorem d_Mo_change_1 : decode c_Mo_change 1 = .ok (.iload_n 1, 1) := by decide +kernel
theorem d_Mo_change_2 : decode c_Mo_change 2 = .ok (.invokevirtual 55, 3) := by decide +kernel
theorem d_Mo_change_5 : decode c_Mo_change 5 = .ok (.lstore_n 3, 1) := by decide +kernel
theorem d_Mo_change_6 : decode c_Mo_change 6 = .ok (.aload_n 0, 1) := by decide +kernel
theorem d_Mo_change_7 : decode c_Mo_change 7 = .ok (.iload_n 1, 1) := by decide +kernel
theorem d_Mo_change_8 : decode c_Mo_change 8 = .ok (.aload_n 0, 1) := by decide +kernel
theorem d_Mo_change_9 : decode c_Mo_change 9 = .ok (.iload_n 2, 1) := by decide +kernel
theorem d_Mo_change_10 : decode c_Mo_change 10 = .ok (.invokevirtual 55, 3) := by decide +kernel
theorem d_Mo_change_13 : decode c_Mo_change 13 = .ok (.invokevirtual 63, 3) := by decide +kernel
theorem d_Mo_change_16 : decode c_Mo_change 16 = .ok (.aload_n 0, 1) := by decide +kernel
theorem d_Mo_change_17 : decode c_Mo_change 17 = .ok (.iload_n 2, 1) := by decide +kernel
theorem d_Mo_change_18 : decode c_Mo_change 18 = .ok (.lload_n 3, 1) := by decide +kernel
theorem d_Mo_change_19 : decode c_Mo_change 19 = .ok (.invokevirtual 63, 3) := by decide +kernel
theorem d_Mo_change_22 : decode c_Mo_change 22 = .ok (.return_, 1) := by decide +kernel
theorem d_Mo_reckon_0 : decode c_Mo_reckon 0 = .ok (.aload_n 0, 1) := by decide +kernel
theorem d_Mo_reckon_1 : decode c_Mo_reckon 1 = .ok (.iconst 0, 1) := by decide +kernel
theorem d_Mo_reckon_2 : decode c_Mo_reckon 2 = .ok (.invokevirtual 55, 3) := by decide +kernel
theorem d_Mo_reckon_5 : decode c_Mo_reckon 5 = .ok (.lstore_n 2, 1) := by decide +kernel
theorem d_Mo_reckon_6 : decode c_Mo_reckon 6 = .ok (.aload_n 0, 1) := by decide +kernel
theorem d_Mo_reckon_7 : decode c_Mo_reckon 7 = .ok (.iconst 1, 1) := by decide +kernel
theorem d_Mo_reckon_8 : decode c_Mo_reckon 8 = .ok (.invokevirtual 55, 3) := by decide +kernel
theorem d_Mo_reckon_11 : decode c_Mo_reckon 11 = .ok (.lstore 4, 2) := by decide +kernel
theorem d_Mo_reckon_13 : decode c_Mo_reckon 13 = .ok (.aload_n 0, 1) := by decide +kernel
theorem d_Mo_reckon_14 : decode c_Mo_reckon 14 = .ok (.iconst 2, 1) := by decide +kernel
theorem d_Mo_reckon_15 : decode c_Mo_reckon 15 = .ok (.invokevirtual 55, 3) := by decide +kernel
theorem d_Mo_reckon_18 : decode c_Mo_reckon 18 = .ok (.lstore 6, 2) := by decide +kernel
theorem d_Mo_reckon_20 : decode c_Mo_reckon 20 = .ok (.iload_n 1, 1) := by decide +kernel
theorem d_Mo_reckon_21 : decode c_Mo_reckon 21 = .ok (.tableswitch 358 8 29 #[103, 115, 127, 139, 150, 162, 174, 186, 198, 209, 221, 232, 358, 358, 358, 358, 245, 264, 283, 302, 321, 339], 103) := by decide +kernel
theorem d_Mo_reckon_124 : decode c_Mo_reckon 124 = .ok (.aload_n 0, 1) := by decide +kernel
theorem d_Mo_reckon_125 : decode c_Mo_reckon 125 = .ok (.iconst 0, 1) := by decide +kernel
theorem d_Mo_reckon_126 : decode c_Mo_reckon 126 = .ok (.lload_n 2, 1) := by decide +kernel
theorem d_Mo_reckon_127 : decode c_Mo_reckon 127 = .ok (.lload 4, 2) := by decide +kernel
theorem d_Mo_reckon_129 : decode c_Mo_reckon 129 = .ok (.ladd, 1) := by decide +kernel
theorem d_Mo_reckon_130 : decode c_Mo_reckon 130 = .ok (.invokevirtual 71, 3) := by decide +kernel
theorem d_Mo_reckon_133 : decode c_Mo_reckon 133 = .ok (.goto 256, 3) := by decide +kernel
theorem d_Mo_reckon_136 : decode c_Mo_reckon 136 = .ok (.aload_n 0, 1) := by decide +kernel
theorem d_Mo_reckon_137 : decode c_Mo_reckon 137 = .ok (.iconst 0, 1) := by decide +kernel
theorem d_Mo_reckon_138 : decode c_Mo_reckon 138 = .ok (.lload_n 2, 1) := by decide +kernel
theorem d_Mo_reckon_139 : decode c_Mo_reckon 139 = .ok (.lload 6, 2) := by decide +kernel
theorem d_Mo_reckon_141 : decode c_Mo_reckon 141 = .ok (.ladd, 1) := by decide +kernel
theorem d_Mo_reckon_142 : decode c_Mo_reckon 142 = .ok (.invokevirtual 71, 3) := by decide +kernel
theorem d_Mo_reckon_145 : decode c_Mo_reckon 145 = .ok (.goto 244, 3) := by decide +kernel
theorem d_Mo_reckon_148 : decode c_Mo_reckon 148 = .ok (.aload_n 0, 1) := by decide +kernel
theorem d_Mo_reckon_149 : decode c_Mo_reckon 149 = .ok (.iconst 2, 1) := by decide +kernel
theorem d_Mo_reckon_150 : decode c_Mo_reckon 150 = .ok (.lload_n 2, 1) := by decide +kernel
theorem d_Mo_reckon_151 : decode c_Mo_reckon 151 = .ok (.lload 6, 2) := by decide +kernel
theorem d_Mo_reckon_153 : decode c_Mo_reckon 153 = .ok (.ladd, 1) := by decide +kernel
theorem d_Mo_reckon_154 : decode c_Mo_reckon 154 = .ok (.invokevirtual 71, 3) := by decide +kernel
theorem d_Mo_reckon_157 : decode c_Mo_reckon 157 = .ok (.goto 232, 3) := by decide +kernel
theorem d_Mo_reckon_160 : decode c_Mo_reckon 160 = .ok (.aload_n 0, 1) := by decide +kernel
theorem d_Mo_reckon_161 : decode c_Mo_reckon 161 = .ok (.iconst 0, 1) := by decide +kernel
theorem d_Mo_reckon_162 : decode c_Mo_reckon 162 = .ok (.lload_n 2, 1) := by decide +kernel
theorem d_Mo_reckon_163 : decode c_Mo_reckon 163 = .ok (.lconst 1, 1) := by decide +kernel
theorem d_Mo_reckon_164 : decode c_Mo_reckon 164 = .ok (.ladd, 1) := by decide +kernel
theorem d_Mo_reckon_165 : decode c_Mo_reckon 165 = .ok (.invokevirtual 71, 3) := by decide +kernel
theorem d_Mo_reckon_168 : decode c_Mo_reckon 168 = .ok (.goto 221, 3) := by decide +kernel
theorem d_Mo_reckon_171 : decode c_Mo_reckon 171 = .ok (.aload_n 0, 1) := by decide +kernel
theorem d_Mo_reckon_172 : decode c_Mo_reckon 172 = .ok (.iconst 2, 1) := by decide +kernel
theorem d_Mo_reckon_173 : decode c_Mo_reckon 173 = .ok (.lload 6, 2) := by decide +kernel
theorem d_Mo_reckon_175 : decode c_Mo_reckon 175 = .ok (.lconst 1, 1) := by decide +kernel
theorem d_Mo_reckon_176 : decode c_Mo_reckon 176 = .ok (.ladd, 1) := by decide +kernel
theorem d_Mo_reckon_177 : decode c_Mo_reckon 177 = .ok (.invokevirtual 71, 3) := by decide +kernel
theorem d_Mo_reckon_180 : decode c_Mo_reckon 180 = .ok (.goto 209, 3) := by decide +kernel
theorem d_Mo_reckon_183 : decode c_Mo_reckon 183 = .ok (.aload_n 0, 1) := by decide +kernel
theorem d_Mo_reckon_184 : decode c_Mo_reckon 184 = .ok (.iconst 0, 1) := by decide +kernel
theorem d_Mo_reckon_185 : decode c_Mo_reckon 185 = .ok (.lload_n 2, 1) := by decide +kernel
theorem d_Mo_reckon_186 : decode c_Mo_reckon 186 = .ok (.lload 4, 2) := by decide +kernel
theorem d_Mo_reckon_188 : decode c_Mo_reckon 188 = .ok (.lsub, 1) := by decide +kernel
theorem d_Mo_reckon_189 : decode c_Mo_reckon 189 = .ok (.invokevirtual 71, 3) := by decide +kernel
theorem d_Mo_reckon_192 : decode c_Mo_reckon 192 = .ok (.goto 197, 3) := by decide +kernel
theorem d_Mo_reckon_195 : decode c_Mo_reckon 195 = .ok (.aload_n 0, 1) := by decide +kernel
theorem d_Mo_reckon_196 : decode c_Mo_reckon 196 = .ok (.iconst 0, 1) := by decide +kernel
theorem d_Mo_reckon_197 : decode c_Mo_reckon 197 = .ok (.lload_n 2, 1) := by decide +kernel
theorem d_Mo_reckon_198 : decode c_Mo_reckon 198 = .ok (.lload 6, 2) := by decide +kernel
theorem d_Mo_reckon_200 : decode c_Mo_reckon 200 = .ok (.lsub, 1) := by decide +kernel
theorem d_Mo_reckon_201 : decode c_Mo_reckon 201 = .ok (.invokevirtual 71, 3) := by decide +kernel
theorem d_Mo_reckon_204 : decode c_Mo_reckon 204 = .ok (.goto 185, 3) := by decide +kernel
theorem d_Mo_reckon_207 : decode c_Mo_reckon 207 = .ok (.aload_n 0, 1) := by decide +kernel
end
section
theorem d_Mo_reckon_208 : decode c_Mo_reckon 208 = .ok (.iconst 2, 1) := by decide +kernel
theorem d_Mo_reckon_209 : decode c_Mo_reckon 209 = .ok (.lload_n 2, 1) := by decide +kernel
theorem d_Mo_reckon_210 : decode c_Mo_reckon 210 = .ok (.lload 6, 2) := by decide +kernel
theorem d_Mo_reckon_212 : decode c_Mo_reckon 212 = .ok (.lsub, 1) := by decide +kernel
theorem d_Mo_reckon_213 : decode c_Mo_reckon 213 = .ok (.invokevirtual 71, 3) := by decide +kernel
theorem d_Mo_reckon_216 : decode c_Mo_reckon 216 = .ok (.goto 173, 3) := by decide +kernel
theorem d_Mo_reckon_219 : decode c_Mo_reckon 219 = .ok (.aload_n 0, 1) := by decide +kernel
theorem d_Mo_reckon_220 : decode c_Mo_reckon 220 = .ok (.iconst 0, 1) := by decide +kernel
theorem d_Mo_reckon_221 : decode c_Mo_reckon 221 = .ok (.lload_n 2, 1) := by decide +kernel
theorem d_Mo_reckon_222 : decode c_Mo_reckon 222 = .ok (.lconst 1, 1) := by decide +kernel
theorem d_Mo_reckon_223 : decode c_Mo_reckon 223 = .ok (.lsub, 1) := by decide +kernel
theorem d_Mo_reckon_224 : decode c_Mo_reckon 224 = .ok (.invokevirtual 71, 3) := by decide +kernel
theorem d_Mo_reckon_227 : decode c_Mo_reckon 227 = .ok (.goto 162, 3) := by decide +kernel
theorem d_Mo_reckon_230 : decode c_Mo_reckon 230 = .ok (.aload_n 0, 1) := by decide +kernel
theorem d_Mo_reckon_231 : decode c_Mo_reckon 231 = .ok (.iconst 2, 1) := by decide +kernel
theorem d_Mo_reckon_232 : decode c_Mo_reckon 232 = .ok (.lload 6, 2) := by decide +kernel
theorem d_Mo_reckon_234 : decode c_Mo_reckon 234 = .ok (.lconst 1, 1) := by decide +kernel
theorem d_Mo_reckon_235 : decode c_Mo_reckon 235 = .ok (.lsub, 1) := by decide +kernel
theorem d_Mo_reckon_236 : decode c_Mo_reckon 236 = .ok (.invokevirtual 71, 3) := by decide +kernel
theorem d_Mo_reckon_239 : decode c_Mo_reckon 239 = .ok (.goto 150, 3) := by decide +kernel
theorem d_Mo_reckon_242 : decode c_Mo_reckon 242 = .ok (.aload_n 0, 1) := by decide +kernel
theorem d_Mo_reckon_243 : decode c_Mo_reckon 243 = .ok (.iconst 2, 1) := by decide +kernel
theorem d_Mo_reckon_244 : decode c_Mo_reckon 244 = .ok (.lload 6, 2) := by decide +kernel
theorem d_Mo_reckon_246 : decode c_Mo_reckon 246 = .ok (.lneg, 1) := by decide +kernel
theorem d_Mo_reckon_247 : decode c_Mo_reckon 247 = .ok (.invokevirtual 71, 3) := by decide +kernel
theorem d_Mo_reckon_250 : decode c_Mo_reckon 250 = .ok (.goto 139, 3) := by decide +kernel
theorem d_Mo_reckon_253 : decode c_Mo_reckon 253 = .ok (.aload_n 0, 1) := by decide +kernel
theorem d_Mo_reckon_254 : decode c_Mo_reckon 254 = .ok (.iconst 2, 1) := by decide +kernel
theorem d_Mo_reckon_255 : decode c_Mo_reckon 255 = .ok (.lload 6, 2) := by decide +kernel
theorem d_Mo_reckon_257 : decode c_Mo_reckon 257 = .ok (.lneg, 1) := by decide +kernel
theorem d_Mo_reckon_258 : decode c_Mo_reckon 258 = .ok (.lconst 1, 1) := by decide +kernel
theorem d_Mo_reckon_259 : decode c_Mo_reckon 259 = .ok (.lsub, 1) := by decide +kernel
theorem d_Mo_reckon_260 : decode c_Mo_reckon 260 = .ok (.invokevirtual 71, 3) := by decide +kernel
theorem d_Mo_reckon_263 : decode c_Mo_reckon 263 = .ok (.goto 126, 3) := by decide +kernel
theorem d_Mo_reckon_266 : decode c_Mo_reckon 266 = .ok (.aload_n 0, 1) := by decide +kernel
theorem d_Mo_reckon_267 : decode c_Mo_reckon 267 = .ok (.lload_n 2, 1) := by decide +kernel
theorem d_Mo_reckon_268 : decode c_Mo_reckon 268 = .ok (.lload 4, 2) := by decide +kernel
theorem d_Mo_reckon_270 : decode c_Mo_reckon 270 = .ok (.lcmp, 1) := by decide +kernel
theorem d_Mo_reckon_271 : decode c_Mo_reckon 271 = .ok (.ifCond .ge 7, 3) := by decide +kernel
theorem d_Mo_reckon_274 : decode c_Mo_reckon 274 = .ok (.iconst 1, 1) := by decide +kernel
theorem d_Mo_reckon_275 : decode c_Mo_reckon 275 = .ok (.goto 4, 3) := by decide +kernel
theorem d_Mo_reckon_278 : decode c_Mo_reckon 278 = .ok (.iconst 0, 1) := by decide +kernel
theorem d_Mo_reckon_279 : decode c_Mo_reckon 279 = .ok (.putfield 59, 3) := by decide +kernel
theorem d_Mo_reckon_282 : decode c_Mo_reckon 282 = .ok (.goto 107, 3) := by decide +kernel
theorem d_Mo_reckon_285 : decode c_Mo_reckon 285 = .ok (.aload_n 0, 1) := by decide +kernel
theorem d_Mo_reckon_286 : decode c_Mo_reckon 286 = .ok (.lload_n 2, 1) := by decide +kernel
theorem d_Mo_reckon_287 : decode c_Mo_reckon 287 = .ok (.lload 6, 2) := by decide +kernel
theorem d_Mo_reckon_289 : decode c_Mo_reckon 289 = .ok (.lcmp, 1) := by decide +kernel
theorem d_Mo_reckon_290 : decode c_Mo_reckon 290 = .ok (.ifCond .ge 7, 3) := by decide +kernel
theorem d_Mo_reckon_293 : decode c_Mo_reckon 293 = .ok (.iconst 1, 1) := by decide +kernel
theorem d_Mo_reckon_294 : decode c_Mo_reckon 294 = .ok (.goto 4, 3) := by decide +kernel
theorem d_Mo_reckon_297 : decode c_Mo_reckon 297 = .ok (.iconst 0, 1) := by decide +kernel
theorem d_Mo_reckon_298 : decode c_Mo_reckon 298 = .ok (.putfield 59, 3) := by decide +kernel
theorem d_Mo_reckon_301 : decode c_Mo_reckon 301 = .ok (.goto 88, 3) := by decide +kernel
theorem d_Mo_reckon_304 : decode c_Mo_reckon 304 = .ok (.aload_n 0, 1) := by decide +kernel
theorem d_Mo_reckon_305 : decode c_Mo_reckon 305 = .ok (.lload 4, 2) := by decide +kernel
theorem d_Mo_reckon_307 : decode c_Mo_reckon 307 = .ok (.lconst 0, 1) := by decide +kernel
theorem d_Mo_reckon_308 : decode c_Mo_reckon 308 = .ok (.lcmp, 1) := by decide +kernel
theorem d_Mo_reckon_309 : decode c_Mo_reckon 309 = .ok (.ifCond .eq 7, 3) := by decide +kernel
theorem d_Mo_reckon_312 : decode c_Mo_reckon 312 = .ok (.iconst 1, 1) := by decide +kernel
theorem d_Mo_reckon_313 : decode c_Mo_reckon 313 = .ok (.goto 4, 3) := by decide +kernel
theorem d_Mo_reckon_316 : decode c_Mo_reckon 316 = .ok (.iconst 0, 1) := by decide +kernel
theorem d_Mo_reckon_317 : decode c_Mo_reckon 317 = .ok (.putfield 59, 3) := by decide +kernel
theorem d_Mo_reckon_320 : decode c_Mo_reckon 320 = .ok (.goto 69, 3) := by decide +kernel
theorem d_Mo_reckon_323 : decode c_Mo_reckon 323 = .ok (.aload_n 0, 1) := by decide +kernel
theorem d_Mo_reckon_324 : decode c_Mo_reckon 324 = .ok (.lload 6, 2) := by decide +kernel
theorem d_Mo_reckon_326 : decode c_Mo_reckon 326 = .ok (.lconst 0, 1) := by decide +kernel
theorem d_Mo_reckon_327 : decode c_Mo_reckon 327 = .ok (.lcmp, 1) := by decide +kernel
theorem d_Mo_reckon_328 : decode c_Mo_reckon 328 = .ok (.ifCond .eq 7, 3) := by decide +kernel
theorem d_Mo_reckon_331 : decode c_Mo_reckon 331 = .ok (.iconst 1, 1) := by decide +kernel
theorem d_Mo_reckon_332 : decode c_Mo_reckon 332 = .ok (.goto 4, 3) := by decide +kernel
theorem d_Mo_reckon_335 : decode c_Mo_reckon 335 = .ok (.iconst 0, 1) := by decide +kernel
theorem d_Mo_reckon_336 : decode c_Mo_reckon 336 = .ok (.putfield 59, 3) := by decide +kernel
theorem d_Mo_reckon_339 : decode c_Mo_reckon 339 = .ok (.goto 50, 3) := by decide +kernel
theorem d_Mo_reckon_342 : decode c_Mo_reckon 342 = .ok (.aload_n 0, 1) := by decide +kernel
theorem d_Mo_reckon_343 : decode c_Mo_reckon 343 = .ok (.lload_n 2, 1) := by decide +kernel
theorem d_Mo_reckon_344 : decode c_Mo_reckon 344 = .ok (.lconst 0, 1) := by decide +kernel
theorem d_Mo_reckon_345 : decode c_Mo_reckon 345 = .ok (.lcmp, 1) := by decide +kernel
theorem d_Mo_reckon_346 : decode c_Mo_reckon 346 = .ok (.ifCond .ne 7, 3) := by decide +kernel
theorem d_Mo_reckon_349 : decode c_Mo_reckon 349 = .ok (.iconst 1, 1) := by decide +kernel
theorem d_Mo_reckon_350 : decode c_Mo_reckon 350 = .ok (.goto 4, 3) := by decide +kernel
theorem d_Mo_reckon_353 : decode c_Mo_reckon 353 = .ok (.iconst 0, 1) := by decide +kernel
theorem d_Mo_reckon_354 : decode c_Mo_reckon 354 = .ok (.putfield 59, 3) := by decide +kernel
theorem d_Mo_reckon_357 : decode c_Mo_reckon 357 = .ok (.goto 32, 3) := by decide +kernel
theorem d_Mo_reckon_360 : decode c_Mo_reckon 360 = .ok (.aload_n 0, 1) := by decide +kernel
theorem d_Mo_reckon_361 : decode c_Mo_reckon 361 = .ok (.lload 6, 2) := by decide +kernel
theorem d_Mo_reckon_363 : decode c_Mo_reckon 363 = .ok (.lconst 0, 1) := by decide +kernel
theorem d_Mo_reckon_364 : decode c_Mo_reckon 364 = .ok (.lcmp, 1) := by decide +kernel
theorem d_Mo_reckon_365 : decode c_Mo_reckon 365 = .ok (.ifCond .ne 7, 3) := by decide +kernel
theorem d_Mo_reckon_368 : decode c_Mo_reckon 368 = .ok (.iconst 1, 1) := by decide +kernel
theorem d_Mo_reckon_369 : decode c_Mo_reckon 369 = .ok (.goto 4, 3) := by decide +kernel
theorem d_Mo_reckon_372 : decode c_Mo_reckon 372 = .ok (.iconst 0, 1) := by decide +kernel
theorem d_Mo_reckon_373 : decode c_Mo_reckon 373 = .ok (.putfield 59, 3) := by decide +kernel
theorem d_Mo_reckon_376 : decode c_Mo_reckon 376 = .ok (.goto 13, 3) := by decide +kernel
theorem d_Mo_reckon_379 : decode c_Mo_reckon 379 = .ok (.aload_n 0, 1) := by decide +kernel
theorem d_Mo_reckon_380 : decode c_Mo_reckon 380 = .ok (.iconst 2, 1) := by decide +kernel
theorem d_Mo_reckon_381 : decode c_Mo_reckon 381 = .ok (.lload 6, 2) := by decide +kernel
theorem d_Mo_reckon_383 : decode c_Mo_reckon 383 = .ok (.lload 6, 2) := by decide +kernel
theorem d_Mo_reckon_385 : decode c_Mo_reckon 385 = .ok (.ladd, 1) := by decide +kernel
theorem d_Mo_reckon_386 : decode c_Mo_reckon 386 = .ok (.invokevirtual 71, 3) := by decide +kernel
theorem d_Mo_reckon_389 : decode c_Mo_reckon 389 = .ok (.return_, 1) := by decide +kernel
theorem d_Mo_become_0 : decode c_Mo_become 0 = .ok (.aload_n 0, 1) := by decide +kernel
theorem d_Mo_become_1 : decode c_Mo_become 1 = .ok (.lload_n 2, 1) := by decide +kernel
theorem d_Mo_become_2 : decode c_Mo_become 2 = .ok (.lconst 0, 1) := by decide +kernel
theorem d_Mo_become_3 : decode c_Mo_become 3 = .ok (.lcmp, 1) := by decide +kernel
theorem d_Mo_become_4 : decode c_Mo_become 4 = .ok (.ifCond .lt 12, 3) := by decide +kernel
theorem d_Mo_become_7 : decode c_Mo_become 7 = .ok (.lload_n 2, 1) := by decide +kernel
theorem d_Mo_become_8 : decode c_Mo_become 8 = .ok (.aload_n 0, 1) := by decide +kernel
theorem d_Mo_become_9 : decode c_Mo_become 9 = .ok (.getfield 52, 3) := by decide +kernel
theorem d_Mo_become_12 : decode c_Mo_become 12 = .ok (.lcmp, 1) := by decide +kernel
theorem d_Mo_become_13 : decode c_Mo_become 13 = .ok (.ifCond .lt 7, 3) := by decide +kernel
theorem d_Mo_become_16 : decode c_Mo_become 16 = .ok (.iconst 1, 1) := by decide +kernel
theorem d_Mo_become_17 : decode c_Mo_become 17 = .ok (.goto 4, 3) := by decide +kernel
theorem d_Mo_become_20 : decode c_Mo_become 20 = .ok (.iconst 0, 1) := by decide +kernel
theorem d_Mo_become_21 : decode c_Mo_become 21 = .ok (.putfield 59, 3) := by decide +kernel
theorem d_Mo_become_24 : decode c_Mo_become 24 = .ok (.aload_n 0, 1) := by decide +kernel
theorem d_Mo_become_25 : decode c_Mo_become 25 = .ok (.iload_n 1, 1) := by decide +kernel
theorem d_Mo_become_26 : decode c_Mo_become 26 = .ok (.lload_n 2, 1) := by decide +kernel
theorem d_Mo_become_27 : decode c_Mo_become 27 = .ok (.lconst 0, 1) := by decide +kernel
theorem d_Mo_become_28 : decode c_Mo_become 28 = .ok (.lcmp, 1) := by decide +kernel
theorem d_Mo_become_29 : decode c_Mo_become 29 = .ok (.ifCond .ge 12, 3) := by decide +kernel
theorem d_Mo_become_32 : decode c_Mo_become 32 = .ok (.lload_n 2, 1) := by decide +kernel
theorem d_Mo_become_33 : decode c_Mo_become 33 = .ok (.aload_n 0, 1) := by decide +kernel
theorem d_Mo_become_34 : decode c_Mo_become 34 = .ok (.getfield 52, 3) := by decide +kernel
theorem d_Mo_become_37 : decode c_Mo_become 37 = .ok (.ladd, 1) := by decide +kernel
theorem d_Mo_become_38 : decode c_Mo_become 38 = .ok (.goto 9, 3) := by decide +kernel
theorem d_Mo_become_41 : decode c_Mo_become 41 = .ok (.lload_n 2, 1) := by decide +kernel
theorem d_Mo_become_42 : decode c_Mo_become 42 = .ok (.aload_n 0, 1) := by decide +kernel
theorem d_Mo_become_43 : decode c_Mo_become 43 = .ok (.getfield 52, 3) := by decide +kernel
theorem d_Mo_become_46 : decode c_Mo_become 46 = .ok (.lrem, 1) := by decide +kernel
theorem d_Mo_become_47 : decode c_Mo_become 47 = .ok (.invokevirtual 63, 3) := by decide +kernel
theorem d_Mo_become_50 : decode c_Mo_become 50 = .ok (.return_, 1) := by decide +kernel
theorem d_Mo_mark_0 : decode c_Mo_mark 0 = .ok (.iload_n 1, 1) := by decide +kernel
theorem d_Mo_mark_1 : decode c_Mo_mark 1 = .ok (.tableswitch 243 1 8 #[47, 58, 78, 99, 122, 152, 192, 218], 47) := by decide +kernel
theorem d_Mo_mark_48 : decode c_Mo_mark 48 = .ok (.aload_n 0, 1) := by decide +kernel
theorem d_Mo_mark_49 : decode c_Mo_mark 49 = .ok (.iload_n 2, 1) := by decide +kernel
theorem d_Mo_mark_50 : decode c_Mo_mark 50 = .ok (.bipush 14, 2) := by decide +kernel
theorem d_Mo_mark_52 : decode c_Mo_mark 52 = .ok (.irem, 1) := by decide +kernel
theorem d_Mo_mark_53 : decode c_Mo_mark 53 = .ok (.putfield 45, 3) := by decide +kernel
theorem d_Mo_mark_56 : decode c_Mo_mark 56 = .ok (.goto 188, 3) := by decide +kernel
theorem d_Mo_mark_59 : decode c_Mo_mark 59 = .ok (.aload_n 0, 1) := by decide +kernel
theorem d_Mo_mark_60 : decode c_Mo_mark 60 = .ok (.aload_n 0, 1) := by decide +kernel
theorem d_Mo_mark_61 : decode c_Mo_mark 61 = .ok (.getfield 45, 3) := by decide +kernel
theorem d_Mo_mark_64 : decode c_Mo_mark 64 = .ok (.iload_n 2, 1) := by decide +kernel
theorem d_Mo_mark_65 : decode c_Mo_mark 65 = .ok (.if_icmp .ne 7, 3) := by decide +kernel
theorem d_Mo_mark_68 : decode c_Mo_mark 68 = .ok (.iconst 1, 1) := by decide +kernel
theorem d_Mo_mark_69 : decode c_Mo_mark 69 = .ok (.goto 4, 3) := by decide +kernel
theorem d_Mo_mark_72 : decode c_Mo_mark 72 = .ok (.iconst 0, 1) := by decide +kernel
theorem d_Mo_mark_73 : decode c_Mo_mark 73 = .ok (.putfield 59, 3) := by decide +kernel
theorem d_Mo_mark_76 : decode c_Mo_mark 76 = .ok (.goto 168, 3) := by decide +kernel
theorem d_Mo_mark_79 : decode c_Mo_mark 79 = .ok (.iload_n 2, 1) := by decide +kernel
theorem d_Mo_mark_80 : decode c_Mo_mark 80 = .ok (.bipush 12, 2) := by decide +kernel
theorem d_Mo_mark_82 : decode c_Mo_mark 82 = .ok (.if_icmp .ge 162, 3) := by decide +kernel
theorem d_Mo_mark_85 : decode c_Mo_mark 85 = .ok (.aload_n 0, 1) := by decide +kernel
theorem d_Mo_mark_86 : decode c_Mo_mark 86 = .ok (.aload_n 0, 1) := by decide +kernel
theorem d_Mo_mark_87 : decode c_Mo_mark 87 = .ok (.getfield 74, 3) := by decide +kernel
theorem d_Mo_mark_90 : decode c_Mo_mark 90 = .ok (.iconst 1, 1) := by decide +kernel
theorem d_Mo_mark_91 : decode c_Mo_mark 91 = .ok (.iload_n 2, 1) := by decide +kernel
theorem d_Mo_mark_92 : decode c_Mo_mark 92 = .ok (.ishl, 1) := by decide +kernel
theorem d_Mo_mark_93 : decode c_Mo_mark 93 = .ok (.ior, 1) := by decide +kernel
theorem d_Mo_mark_94 : decode c_Mo_mark 94 = .ok (.putfield 74, 3) := by decide +kernel
theorem d_Mo_mark_97 : decode c_Mo_mark 97 = .ok (.goto 147, 3) := by decide +kernel
theorem d_Mo_mark_100 : decode c_Mo_mark 100 = .ok (.iload_n 2, 1) := by decide +kernel
theorem d_Mo_mark_101 : decode c_Mo_mark 101 = .ok (.bipush 12, 2) := by decide +kernel
theorem d_Mo_mark_103 : decode c_Mo_mark 103 = .ok (.if_icmp .ge 141, 3) := by decide +kernel
theorem d_Mo_mark_106 : decode c_Mo_mark 106 = .ok (.aload_n 0, 1) := by decide +kernel
theorem d_Mo_mark_107 : decode c_Mo_mark 107 = .ok (.aload_n 0, 1) := by decide +kernel
theorem d_Mo_mark_108 : decode c_Mo_mark 108 = .ok (.getfield 74, 3) := by decide +kernel
theorem d_Mo_mark_111 : decode c_Mo_mark 111 = .ok (.iconst 1, 1) := by decide +kernel
theorem d_Mo_mark_112 : decode c_Mo_mark 112 = .ok (.iload_n 2, 1) := by decide +kernel
theorem d_Mo_mark_113 : decode c_Mo_mark 113 = .ok (.ishl, 1) := by decide +kernel
theorem d_Mo_mark_114 : decode c_Mo_mark 114 = .ok (.iconst (-1), 1) := by decide +kernel
theorem d_Mo_mark_115 : decode c_Mo_mark 115 = .ok (.ixor, 1) := by decide +kernel
theorem d_Mo_mark_116 : decode c_Mo_mark 116 = .ok (.iand, 1) := by decide +kernel
theorem d_Mo_mark_117 : decode c_Mo_mark 117 = .ok (.putfield 74, 3) := by decide +kernel
theorem d_Mo_mark_120 : decode c_Mo_mark 120 = .ok (.goto 124, 3) := by decide +kernel
theorem d_Mo_mark_123 : decode c_Mo_mark 123 = .ok (.aload_n 0, 1) := by decide +kernel
theorem d_Mo_mark_124 : decode c_Mo_mark 124 = .ok (.iload_n 2, 1) := by decide +kernel
theorem d_Mo_mark_125 : decode c_Mo_mark 125 = .ok (.bipush 12, 2) := by decide +kernel
theorem d_Mo_mark_127 : decode c_Mo_mark 127 = .ok (.if_icmp .ge 19, 3) := by decide +kernel
theorem d_Mo_mark_130 : decode c_Mo_mark 130 = .ok (.aload_n 0, 1) := by decide +kernel
theorem d_Mo_mark_131 : decode c_Mo_mark 131 = .ok (.getfield 74, 3) := by decide +kernel
theorem d_Mo_mark_134 : decode c_Mo_mark 134 = .ok (.iload_n 2, 1) := by decide +kernel
theorem d_Mo_mark_135 : decode c_Mo_mark 135 = .ok (.ishr, 1) := by decide +kernel
theorem d_Mo_mark_136 : decode c_Mo_mark 136 = .ok (.iconst 1, 1) := by decide +kernel
theorem d_Mo_mark_137 : decode c_Mo_mark 137 = .ok (.iand, 1) := by decide +kernel
theorem d_Mo_mark_138 : decode c_Mo_mark 138 = .ok (.iconst 1, 1) := by decide +kernel
theorem d_Mo_mark_139 : decode c_Mo_mark 139 = .ok (.if_icmp .ne 7, 3) := by decide +kernel
theorem d_Mo_mark_142 : decode c_Mo_mark 142 = .ok (.iconst 1, 1) := by decide +kernel
theorem d_Mo_mark_143 : decode c_Mo_mark 143 = .ok (.goto 4, 3) := by decide +kernel
theorem d_Mo_mark_146 : decode c_Mo_mark 146 = .ok (.iconst 0, 1) := by decide +kernel
theorem d_Mo_mark_147 : decode c_Mo_mark 147 = .ok (.putfield 59, 3) := by decide +kernel
theorem d_Mo_mark_150 : decode c_Mo_mark 150 = .ok (.goto 94, 3) := by decide +kernel
theorem d_Mo_mark_153 : decode c_Mo_mark 153 = .ok (.aload_n 0, 1) := by decide +kernel
theorem d_Mo_mark_154 : decode c_Mo_mark 154 = .ok (.iconst 0, 1) := by decide +kernel
theorem d_Mo_mark_155 : decode c_Mo_mark 155 = .ok (.invokevirtual 77, 3) := by decide +kernel
theorem d_Mo_mark_158 : decode c_Mo_mark 158 = .ok (.aload_n 0, 1) := by decide +kernel
theorem d_Mo_mark_159 : decode c_Mo_mark 159 = .ok (.iconst 2, 1) := by decide +kernel
theorem d_Mo_mark_160 : decode c_Mo_mark 160 = .ok (.iload_n 2, 1) := by decide +kernel
theorem d_Mo_mark_161 : decode c_Mo_mark 161 = .ok (.bipush 10, 2) := by decide +kernel
theorem d_Mo_mark_163 : decode c_Mo_mark 163 = .ok (.irem, 1) := by decide +kernel
theorem d_Mo_mark_164 : decode c_Mo_mark 164 = .ok (.i2l, 1) := by decide +kernel
theorem d_Mo_mark_165 : decode c_Mo_mark 165 = .ok (.invokevirtual 63, 3) := by decide +kernel
theorem d_Mo_mark_168 : decode c_Mo_mark 168 = .ok (.aload_n 0, 1) := by decide +kernel
theorem d_Mo_mark_169 : decode c_Mo_mark 169 = .ok (.aload_n 0, 1) := by decide +kernel
theorem d_Mo_mark_170 : decode c_Mo_mark 170 = .ok (.getfield 45, 3) := by decide +kernel
theorem d_Mo_mark_173 : decode c_Mo_mark 173 = .ok (.ifCond .ne 8, 3) := by decide +kernel
theorem d_Mo_mark_176 : decode c_Mo_mark 176 = .ok (.bipush 13, 2) := by decide +kernel
theorem d_Mo_mark_178 : decode c_Mo_mark 178 = .ok (.goto 9, 3) := by decide +kernel
theorem d_Mo_mark_181 : decode c_Mo_mark 181 = .ok (.aload_n 0, 1) := by decide +kernel
theorem d_Mo_mark_182 : decode c_Mo_mark 182 = .ok (.getfield 45, 3) := by decide +kernel
theorem d_Mo_mark_185 : decode c_Mo_mark 185 = .ok (.iconst 1, 1) := by decide +kernel
theorem d_Mo_mark_186 : decode c_Mo_mark 186 = .ok (.isub, 1) := by decide +kernel
theorem d_Mo_mark_187 : decode c_Mo_mark 187 = .ok (.putfield 45, 3) := by decide +kernel
theorem d_Mo_mark_190 : decode c_Mo_mark 190 = .ok (.goto 54, 3) := by decide +kernel
theorem d_Mo_mark_193 : decode c_Mo_mark 193 = .ok (.aload_n 0, 1) := by decide +kernel
theorem d_Mo_mark_194 : decode c_Mo_mark 194 = .ok (.aload_n 0, 1) := by decide +kernel
theorem d_Mo_mark_195 : decode c_Mo_mark 195 = .ok (.getfield 45, 3) := by decide +kernel
theorem d_Mo_mark_198 : decode c_Mo_mark 198 = .ok (.bipush 13, 2) := by decide +kernel
theorem d_Mo_mark_200 : decode c_Mo_mark 200 = .ok (.if_icmp .ne 7, 3) := by decide +kernel
theorem d_Mo_mark_203 : decode c_Mo_mark 203 = .ok (.iconst 0, 1) := by decide +kernel
theorem d_Mo_mark_204 : decode c_Mo_mark 204 = .ok (.goto 9, 3) := by decide +kernel
theorem d_Mo_mark_207 : decode c_Mo_mark 207 = .ok (.aload_n 0, 1) := by decide +kernel
theorem d_Mo_mark_208 : decode c_Mo_mark 208 = .ok (.getfield 45, 3) := by decide +kernel
theorem d_Mo_mark_211 : decode c_Mo_mark 211 = .ok (.iconst 1, 1) := by decide +kernel
theorem d_Mo_mark_212 : decode c_Mo_mark 212 = .ok (.iadd, 1) := by decide +kernel
theorem d_Mo_mark_213 : decode c_Mo_mark 213 = .ok (.putfield 45, 3) := by decide +kernel
theorem d_Mo_mark_216 : decode c_Mo_mark 216 = .ok (.goto 28, 3) := by decide +kernel
theorem d_Mo_mark_219 : decode c_Mo_mark 219 = .ok (.aload_n 0, 1) := by decide +kernel
theorem d_Mo_mark_220 : decode c_Mo_mark 220 = .ok (.aload_n 0, 1) := by decide +kernel
theorem d_Mo_mark_221 : decode c_Mo_mark 221 = .ok (.getfield 45, 3) := by decide +kernel
theorem d_Mo_mark_224 : decode c_Mo_mark 224 = .ok (.ifCond .ne 8, 3) := by decide +kernel
theorem d_Mo_mark_227 : decode c_Mo_mark 227 = .ok (.bipush 13, 2) := by decide +kernel
theorem d_Mo_mark_229 : decode c_Mo_mark 229 = .ok (.goto 9, 3) := by decide +kernel
theorem d_Mo_mark_232 : decode c_Mo_mark 232 = .ok (.aload_n 0, 1) := by decide +kernel
theorem d_Mo_mark_233 : decode c_Mo_mark 233 = .ok (.getfield 45, 3) := by decide +kernel
theorem d_Mo_mark_236 : decode c_Mo_mark 236 = .ok (.iconst 1, 1) := by decide +kernel
theorem d_Mo_mark_237 : decode c_Mo_mark 237 = .ok (.isub, 1) := by decide +kernel
theorem d_Mo_mark_238 : decode c_Mo_mark 238 = .ok (.putfield 45, 3) := by decide +kernel
theorem d_Mo_mark_241 : decode c_Mo_mark 241 = .ok (.goto 3, 3) := by decide +kernel
theorem d_Mo_mark_244 : decode c_Mo_mark 244 = .ok (.return_, 1) := by decide +kernel
theorem d_Mo_turn_0 : decode c_Mo_turn 0 = .ok (.aload_n 0, 1) := by decide +kernel
theorem d_Mo_turn_1 : decode c_Mo_turn 1 = .ok (.getfield 13, 3) := by decide +kernel
theorem d_Mo_turn_4 : decode c_Mo_turn 4 = .ok (.iconst 2, 1) := by decide +kernel
theorem d_Mo_turn_5 : decode c_Mo_turn 5 = .ok (.laload, 1) := by decide +kernel
theorem d_Mo_turn_6 : decode c_Mo_turn 6 = .ok (.lstore_n 3, 1) := by decide +kernel
theorem d_Mo_turn_7 : decode c_Mo_turn 7 = .ok (.iload_n 1, 1) := by decide +kernel
theorem d_Mo_turn_8 : decode c_Mo_turn 8 = .ok (.tableswitch 125 9 14 #[40, 125, 74, 85, 93, 101], 40) := by decide +kernel
theorem d_Mo_turn_48 : decode c_Mo_turn 48 = .ok (.aload_n 0, 1) := by decide +kernel
theorem d_Mo_turn_49 : decode c_Mo_turn 49 = .ok (.getfield 13, 3) := by decide +kernel
theorem d_Mo_turn_52 : decode c_Mo_turn 52 = .ok (.iconst 5, 1) := by decide +kernel
theorem d_Mo_turn_53 : decode c_Mo_turn 53 = .ok (.aload_n 0, 1) := by decide +kernel
theorem d_Mo_turn_54 : decode c_Mo_turn 54 = .ok (.getfield 13, 3) := by decide +kernel
theorem d_Mo_turn_57 : decode c_Mo_turn 57 = .ok (.iconst 4, 1) := by decide +kernel
theorem d_Mo_turn_58 : decode c_Mo_turn 58 = .ok (.laload, 1) := by decide +kernel
theorem d_Mo_turn_59 : decode c_Mo_turn 59 = .ok (.lastore, 1) := by decide +kernel
theorem d_Mo_turn_60 : decode c_Mo_turn 60 = .ok (.aload_n 0, 1) := by decide +kernel
theorem d_Mo_turn_61 : decode c_Mo_turn 61 = .ok (.getfield 13, 3) := by decide +kernel
theorem d_Mo_turn_64 : decode c_Mo_turn 64 = .ok (.iconst 4, 1) := by decide +kernel
theorem d_Mo_turn_65 : decode c_Mo_turn 65 = .ok (.aload_n 0, 1) := by decide +kernel
theorem d_Mo_turn_66 : decode c_Mo_turn 66 = .ok (.getfield 13, 3) := by decide +kernel
theorem d_Mo_turn_69 : decode c_Mo_turn 69 = .ok (.iconst 3, 1) := by decide +kernel
theorem d_Mo_turn_70 : decode c_Mo_turn 70 = .ok (.laload, 1) := by decide +kernel
theorem d_Mo_turn_71 : decode c_Mo_turn 71 = .ok (.lastore, 1) := by decide +kernel
theorem d_Mo_turn_72 : decode c_Mo_turn 72 = .ok (.aload_n 0, 1) := by decide +kernel
theorem d_Mo_turn_73 : decode c_Mo_turn 73 = .ok (.getfield 13, 3) := by decide +kernel
theorem d_Mo_turn_76 : decode c_Mo_turn 76 = .ok (.iconst 3, 1) := by decide +kernel
theorem d_Mo_turn_77 : decode c_Mo_turn 77 = .ok (.lload_n 3, 1) := by decide +kernel
theorem d_Mo_turn_78 : decode c_Mo_turn 78 = .ok (.lastore, 1) := by decide +kernel
theorem d_Mo_turn_79 : decode c_Mo_turn 79 = .ok (.goto 113, 3) := by decide +kernel
theorem d_Mo_turn_82 : decode c_Mo_turn 82 = .ok (.aload_n 0, 1) := by decide +kernel
theorem d_Mo_turn_83 : decode c_Mo_turn 83 = .ok (.aload_n 0, 1) := by decide +kernel
theorem d_Mo_turn_84 : decode c_Mo_turn 84 = .ok (.getfield 81, 3) := by decide +kernel
theorem d_Mo_turn_87 : decode c_Mo_turn 87 = .ok (.putfield 84, 3) := by decide +kernel
theorem d_Mo_turn_90 : decode c_Mo_turn 90 = .ok (.goto 102, 3) := by decide +kernel
theorem d_Mo_turn_93 : decode c_Mo_turn 93 = .ok (.aload_n 0, 1) := by decide +kernel
theorem d_Mo_turn_94 : decode c_Mo_turn 94 = .ok (.iload_n 2, 1) := by decide +kernel
theorem d_Mo_turn_95 : decode c_Mo_turn 95 = .ok (.invokevirtual 87, 3) := by decide +kernel
theorem d_Mo_turn_98 : decode c_Mo_turn 98 = .ok (.goto 94, 3) := by decide +kernel
theorem d_Mo_turn_101 : decode c_Mo_turn 101 = .ok (.aload_n 0, 1) := by decide +kernel
theorem d_Mo_turn_102 : decode c_Mo_turn 102 = .ok (.iconst 1, 1) := by decide +kernel
theorem d_Mo_turn_103 : decode c_Mo_turn 103 = .ok (.putfield 90, 3) := by decide +kernel
theorem d_Mo_turn_106 : decode c_Mo_turn 106 = .ok (.goto 86, 3) := by decide +kernel
theorem d_Mo_turn_109 : decode c_Mo_turn 109 = .ok (.aload_n 0, 1) := by decide +kernel
theorem d_Mo_turn_110 : decode c_Mo_turn 110 = .ok (.getfield 13, 3) := by decide +kernel
theorem d_Mo_turn_113 : decode c_Mo_turn 113 = .ok (.iconst 2, 1) := by decide +kernel
theorem d_Mo_turn_114 : decode c_Mo_turn 114 = .ok (.aload_n 0, 1) := by decide +kernel
theorem d_Mo_turn_115 : decode c_Mo_turn 115 = .ok (.getfield 13, 3) := by decide +kernel
theorem d_Mo_turn_118 : decode c_Mo_turn 118 = .ok (.bipush 6, 2) := by decide +kernel
theorem d_Mo_turn_120 : decode c_Mo_turn 120 = .ok (.laload, 1) := by decide +kernel
theorem d_Mo_turn_121 : decode c_Mo_turn 121 = .ok (.lastore, 1) := by decide +kernel
theorem d_Mo_turn_122 : decode c_Mo_turn 122 = .ok (.aload_n 0, 1) := by decide +kernel
theorem d_Mo_turn_123 : decode c_Mo_turn 123 = .ok (.getfield 13, 3) := by decide +kernel
theorem d_Mo_turn_126 : decode c_Mo_turn 126 = .ok (.bipush 6, 2) := by decide +kernel
theorem d_Mo_turn_128 : decode c_Mo_turn 128 = .ok (.lload_n 3, 1) := by decide +kernel
theorem d_Mo_turn_129 : decode c_Mo_turn 129 = .ok (.lastore, 1) := by decide +kernel
theorem d_Mo_turn_130 : decode c_Mo_turn 130 = .ok (.goto 62, 3) := by decide +kernel
theorem d_Mo_turn_133 : decode c_Mo_turn 133 = .ok (.aload_n 0, 1) := by decide +kernel
theorem d_Mo_turn_134 : decode c_Mo_turn 134 = .ok (.getfield 13, 3) := by decide +kernel
theorem d_Mo_turn_137 : decode c_Mo_turn 137 = .ok (.iload_n 1, 1) := by decide +kernel
theorem d_Mo_turn_138 : decode c_Mo_turn 138 = .ok (.bipush 10, 2) := by decide +kernel
theorem d_Mo_turn_140 : decode c_Mo_turn 140 = .ok (.if_icmp .ne 7, 3) := by decide +kernel
theorem d_Mo_turn_143 : decode c_Mo_turn 143 = .ok (.iconst 0, 1) := by decide +kernel
theorem d_Mo_turn_144 : decode c_Mo_turn 144 = .ok (.goto 4, 3) := by decide +kernel
theorem d_Mo_turn_147 : decode c_Mo_turn 147 = .ok (.iconst 2, 1) := by decide +kernel
theorem d_Mo_turn_148 : decode c_Mo_turn 148 = .ok (.aload_n 0, 1) := by decide +kernel
theorem d_Mo_turn_149 : decode c_Mo_turn 149 = .ok (.getfield 13, 3) := by decide +kernel
theorem d_Mo_turn_152 : decode c_Mo_turn 152 = .ok (.iconst 3, 1) := by decide +kernel
theorem d_Mo_turn_153 : decode c_Mo_turn 153 = .ok (.laload, 1) := by decide +kernel
theorem d_Mo_turn_154 : decode c_Mo_turn 154 = .ok (.lastore, 1) := by decide +kernel
theorem d_Mo_turn_155 : decode c_Mo_turn 155 = .ok (.iload_n 1, 1) := by decide +kernel
theorem d_Mo_turn_156 : decode c_Mo_turn 156 = .ok (.bipush 15, 2) := by decide +kernel
theorem d_Mo_turn_158 : decode c_Mo_turn 158 = .ok (.if_icmp .ne 10, 3) := by decide +kernel
theorem d_Mo_turn_161 : decode c_Mo_turn 161 = .ok (.aload_n 0, 1) := by decide +kernel
theorem d_Mo_turn_162 : decode c_Mo_turn 162 = .ok (.getfield 13, 3) := by decide +kernel
theorem d_Mo_turn_165 : decode c_Mo_turn 165 = .ok (.iconst 0, 1) := by decide +kernel
theorem d_Mo_turn_166 : decode c_Mo_turn 166 = .ok (.lload_n 3, 1) := by decide +kernel
theorem d_Mo_turn_167 : decode c_Mo_turn 167 = .ok (.lastore, 1) := by decide +kernel
theorem d_Mo_turn_168 : decode c_Mo_turn 168 = .ok (.aload_n 0, 1) := by decide +kernel
theorem d_Mo_turn_169 : decode c_Mo_turn 169 = .ok (.getfield 13, 3) := by decide +kernel
theorem d_Mo_turn_172 : decode c_Mo_turn 172 = .ok (.iconst 3, 1) := by decide +kernel
theorem d_Mo_turn_173 : decode c_Mo_turn 173 = .ok (.aload_n 0, 1) := by decide +kernel
theorem d_Mo_turn_174 : decode c_Mo_turn 174 = .ok (.getfield 13, 3) := by decide +kernel
theorem d_Mo_turn_177 : decode c_Mo_turn 177 = .ok (.iconst 4, 1) := by decide +kernel
theorem d_Mo_turn_178 : decode c_Mo_turn 178 = .ok (.laload, 1) := by decide +kernel
theorem d_Mo_turn_179 : decode c_Mo_turn 179 = .ok (.lastore, 1) := by decide +kernel
theorem d_Mo_turn_180 : decode c_Mo_turn 180 = .ok (.aload_n 0, 1) := by decide +kernel
theorem d_Mo_turn_181 : decode c_Mo_turn 181 = .ok (.getfield 13, 3) := by decide +kernel
theorem d_Mo_turn_184 : decode c_Mo_turn 184 = .ok (.iconst 4, 1) := by decide +kernel
theorem d_Mo_turn_185 : decode c_Mo_turn 185 = .ok (.aload_n 0, 1) := by decide +kernel
theorem d_Mo_turn_186 : decode c_Mo_turn 186 = .ok (.getfield 13, 3) := by decide +kernel
theorem d_Mo_turn_189 : decode c_Mo_turn 189 = .ok (.iconst 5, 1) := by decide +kernel
theorem d_Mo_turn_190 : decode c_Mo_turn 190 = .ok (.laload, 1) := by decide +kernel
theorem d_Mo_turn_191 : decode c_Mo_turn 191 = .ok (.lastore, 1) := by decide +kernel
theorem d_Mo_turn_192 : decode c_Mo_turn 192 = .ok (.return_, 1) := by decide +kernel
theorem d_Mo_pick_0 : decode c_Mo_pick 0 = .ok (.aload_n 0, 1) := by decide +kernel
theorem d_Mo_pick_1 : decode c_Mo_pick 1 = .ok (.getfield 93, 3) := by decide +kernel
theorem d_Mo_pick_4 : decode c_Mo_pick 4 = .ok (.ifCond .ne 14, 3) := by decide +kernel
theorem d_Mo_pick_7 : decode c_Mo_pick 7 = .ok (.aload_n 0, 1) := by decide +kernel
theorem d_Mo_pick_8 : decode c_Mo_pick 8 = .ok (.iload_n 1, 1) := by decide +kernel
theorem d_Mo_pick_9 : decode c_Mo_pick 9 = .ok (.putfield 84, 3) := by decide +kernel
theorem d_Mo_pick_12 : decode c_Mo_pick 12 = .ok (.aload_n 0, 1) := by decide +kernel
theorem d_Mo_pick_13 : decode c_Mo_pick 13 = .ok (.iconst 1, 1) := by decide +kernel
theorem d_Mo_pick_14 : decode c_Mo_pick 14 = .ok (.putfield 90, 3) := by decide +kernel
theorem d_Mo_pick_17 : decode c_Mo_pick 17 = .ok (.return_, 1) := by decide +kernel
theorem d_Mo_pick_18 : decode c_Mo_pick 18 = .ok (.aload_n 0, 1) := by decide +kernel
theorem d_Mo_pick_19 : decode c_Mo_pick 19 = .ok (.bipush 8, 2) := by decide +kernel
theorem d_Mo_pick_21 : decode c_Mo_pick 21 = .ok (.aload_n 0, 1) := by decide +kernel
theorem d_Mo_pick_22 : decode c_Mo_pick 22 = .ok (.getfield 20, 3) := by decide +kernel
theorem d_Mo_pick_25 : decode c_Mo_pick 25 = .ok (.iconst 0, 1) := by decide +kernel
theorem d_Mo_pick_26 : decode c_Mo_pick 26 = .ok (.iaload, 1) := by decide +kernel
theorem d_Mo_pick_27 : decode c_Mo_pick 27 = .ok (.imul, 1) := by decide +kernel
theorem d_Mo_pick_28 : decode c_Mo_pick 28 = .ok (.bipush 64, 2) := by decide +kernel
theorem d_Mo_pick_30 : decode c_Mo_pick 30 = .ok (.irem, 1) := by decide +kernel
theorem d_Mo_pick_31 : decode c_Mo_pick 31 = .ok (.putfield 84, 3) := by decide +kernel
theorem d_Mo_pick_34 : decode c_Mo_pick 34 = .ok (.aload_n 0, 1) := by decide +kernel
theorem d_Mo_pick_35 : decode c_Mo_pick 35 = .ok (.dup, 1) := by decide +kernel
theorem d_Mo_pick_36 : decode c_Mo_pick 36 = .ok (.getfield 93, 3) := by decide +kernel
theorem d_Mo_pick_39 : decode c_Mo_pick 39 = .ok (.iconst 1, 1) := by decide +kernel
theorem d_Mo_pick_40 : decode c_Mo_pick 40 = .ok (.isub, 1) := by decide +kernel
theorem d_Mo_pick_41 : decode c_Mo_pick 41 = .ok (.putfield 93, 3) := by decide +kernel
theorem d_Mo_pick_44 : decode c_Mo_pick 44 = .ok (.aload_n 0, 1) := by decide +kernel
theorem d_Mo_pick_45 : decode c_Mo_pick 45 = .ok (.getfield 20, 3) := by decide +kernel
theorem d_Mo_pick_48 : decode c_Mo_pick 48 = .ok (.iconst 0, 1) := by decide +kernel
theorem d_Mo_pick_49 : decode c_Mo_pick 49 = .ok (.aload_n 0, 1) := by decide +kernel
theorem d_Mo_pick_50 : decode c_Mo_pick 50 = .ok (.getfield 20, 3) := by decide +kernel
theorem d_Mo_pick_53 : decode c_Mo_pick 53 = .ok (.iconst 1, 1) := by decide +kernel
theorem d_Mo_pick_54 : decode c_Mo_pick 54 = .ok (.iaload, 1) := by decide +kernel
theorem d_Mo_pick_55 : decode c_Mo_pick 55 = .ok (.iastore, 1) := by decide +kernel
theorem d_Mo_pick_56 : decode c_Mo_pick 56 = .ok (.aload_n 0, 1) := by decide +kernel
theorem d_Mo_pick_57 : decode c_Mo_pick 57 = .ok (.getfield 20, 3) := by decide +kernel
theorem d_Mo_pick_60 : decode c_Mo_pick 60 = .ok (.iconst 1, 1) := by decide +kernel
theorem d_Mo_pick_61 : decode c_Mo_pick 61 = .ok (.aload_n 0, 1) := by decide +kernel
theorem d_Mo_pick_62 : decode c_Mo_pick 62 = .ok (.getfield 20, 3) := by decide +kernel
theorem d_Mo_pick_65 : decode c_Mo_pick 65 = .ok (.iconst 2, 1) := by decide +kernel
theorem d_Mo_pick_66 : decode c_Mo_pick 66 = .ok (.iaload, 1) := by decide +kernel
theorem d_Mo_pick_67 : decode c_Mo_pick 67 = .ok (.iastore, 1) := by decide +kernel
theorem d_Mo_pick_68 : decode c_Mo_pick 68 = .ok (.return_, 1) := by decide +kernel
theorem d_Mo_type_0 : decode c_Mo_type 0 = .ok (.aload_n 0, 1) := by decide +kernel
theorem d_Mo_type_1 : decode c_Mo_type 1 = .ok (.iconst 0, 1) := by decide +kernel
theorem d_Mo_type_2 : decode c_Mo_type 2 = .ok (.putfield 42, 3) := by decide +kernel
theorem d_Mo_type_5 : decode c_Mo_type 5 = .ok (.iload_n 1, 1) := by decide +kernel
theorem d_Mo_type_6 : decode c_Mo_type 6 = .ok (.bipush 32, 2) := by decide +kernel
theorem d_Mo_type_8 : decode c_Mo_type 8 = .ok (.if_icmp .lt 19, 3) := by decide +kernel
theorem d_Mo_type_11 : decode c_Mo_type 11 = .ok (.iload_n 1, 1) := by decide +kernel
theorem d_Mo_type_12 : decode c_Mo_type 12 = .ok (.bipush 126, 2) := by decide +kernel
theorem d_Mo_type_14 : decode c_Mo_type 14 = .ok (.if_icmp .gt 13, 3) := by decide +kernel
theorem d_Mo_type_17 : decode c_Mo_type 17 = .ok (.aload_n 0, 1) := by decide +kernel
theorem d_Mo_type_18 : decode c_Mo_type 18 = .ok (.getfield 235, 3) := by decide +kernel
theorem d_Mo_type_21 : decode c_Mo_type 21 = .ok (.sipush 240, 3) := by decide +kernel
theorem d_Mo_type_24 : decode c_Mo_type 24 = .ok (.if_icmp .ne 5, 3) := by decide +kernel
theorem d_Mo_type_27 : decode c_Mo_type 27 = .ok (.iconst 0, 1) := by decide +kernel
theorem d_Mo_type_28 : decode c_Mo_type 28 = .ok (.ireturn, 1) := by decide +kernel
theorem d_Mo_type_29 : decode c_Mo_type 29 = .ok (.aload_n 0, 1) := by decide +kernel
theorem d_Mo_type_30 : decode c_Mo_type 30 = .ok (.getfield 23, 3) := by decide +kernel
theorem d_Mo_type_33 : decode c_Mo_type 33 = .ok (.aload_n 0, 1) := by decide +kernel
theorem d_Mo_type_34 : decode c_Mo_type 34 = .ok (.getfield 235, 3) := by decide +kernel
theorem d_Mo_type_37 : decode c_Mo_type 37 = .ok (.iload_n 1, 1) := by decide +kernel
theorem d_Mo_type_38 : decode c_Mo_type 38 = .ok (.castore, 1) := by decide +kernel
theorem d_Mo_type_39 : decode c_Mo_type 39 = .ok (.aload_n 0, 1) := by decide +kernel
theorem d_Mo_type_40 : decode c_Mo_type 40 = .ok (.dup, 1) := by decide +kernel
theorem d_Mo_type_41 : decode c_Mo_type 41 = .ok (.getfield 235, 3) := by decide +kernel
theorem d_Mo_type_44 : decode c_Mo_type 44 = .ok (.iconst 1, 1) := by decide +kernel
theorem d_Mo_type_45 : decode c_Mo_type 45 = .ok (.iadd, 1) := by decide +kernel
theorem d_Mo_type_46 : decode c_Mo_type 46 = .ok (.putfield 235, 3) := by decide +kernel
theorem d_Mo_type_49 : decode c_Mo_type 49 = .ok (.iconst 1, 1) := by decide +kernel
theorem d_Mo_type_50 : decode c_Mo_type 50 = .ok (.ireturn, 1) := by decide +kernel
theorem d_Mo_assemble_0 : decode c_Mo_assemble 0 = .ok (.aload_n 0, 1) := by decide +kernel
theorem d_Mo_assemble_1 : decode c_Mo_assemble 1 = .ok (.aload_n 0, 1) := by decide +kernel
theorem d_Mo_assemble_2 : decode c_Mo_assemble 2 = .ok (.invokevirtual 242, 3) := by decide +kernel
theorem d_Mo_assemble_5 : decode c_Mo_assemble 5 = .ok (.putfield 27, 3) := by decide +kernel
theorem d_Mo_assemble_8 : decode c_Mo_assemble 8 = .ok (.aload_n 0, 1) := by decide +kernel
theorem d_Mo_assemble_9 : decode c_Mo_assemble 9 = .ok (.iconst 0, 1) := by decide +kernel
theorem d_Mo_assemble_10 : decode c_Mo_assemble 10 = .ok (.putfield 235, 3) := by decide +kernel
theorem d_Mo_assemble_13 : decode c_Mo_assemble 13 = .ok (.aload_n 0, 1) := by decide +kernel
theorem d_Mo_assemble_14 : decode c_Mo_assemble 14 = .ok (.aload_n 0, 1) := by decide +kernel
theorem d_Mo_assemble_15 : decode c_Mo_assemble 15 = .ok (.getfield 27, 3) := by decide +kernel
theorem d_Mo_assemble_18 : decode c_Mo_assemble 18 = .ok (.ifCond .lt 7, 3) := by decide +kernel
theorem d_Mo_assemble_21 : decode c_Mo_assemble 21 = .ok (.iconst 1, 1) := by decide +kernel
theorem d_Mo_assemble_22 : decode c_Mo_assemble 22 = .ok (.goto 4, 3) := by decide +kernel
theorem d_Mo_assemble_25 : decode c_Mo_assemble 25 = .ok (.iconst 0, 1) := by decide +kernel
theorem d_Mo_assemble_26 : decode c_Mo_assemble 26 = .ok (.putfield 42, 3) := by decide +kernel
theorem d_Mo_assemble_29 : decode c_Mo_assemble 29 = .ok (.aload_n 0, 1) := by decide +kernel
theorem d_Mo_assemble_30 : decode c_Mo_assemble 30 = .ok (.getfield 42, 3) := by decide +kernel
theorem d_Mo_assemble_33 : decode c_Mo_assemble 33 = .ok (.ifCond .eq 5, 3) := by decide +kernel
theorem d_Mo_assemble_36 : decode c_Mo_assemble 36 = .ok (.iconst 0, 1) := by decide +kernel
theorem d_Mo_assemble_37 : decode c_Mo_assemble 37 = .ok (.ireturn, 1) := by decide +kernel
theorem d_Mo_assemble_38 : decode c_Mo_assemble 38 = .ok (.iconst 0, 1) := by decide +kernel
theorem d_Mo_assemble_39 : decode c_Mo_assemble 39 = .ok (.istore_n 1, 1) := by decide +kernel
theorem d_Mo_assemble_40 : decode c_Mo_assemble 40 = .ok (.iload_n 1, 1) := by decide +kernel
theorem d_Mo_assemble_41 : decode c_Mo_assemble 41 = .ok (.bipush 64, 2) := by decide +kernel
theorem d_Mo_assemble_43 : decode c_Mo_assemble 43 = .ok (.if_icmp .ge 33, 3) := by decide +kernel
theorem d_Mo_assemble_46 : decode c_Mo_assemble 46 = .ok (.aload_n 0, 1) := by decide +kernel
theorem d_Mo_assemble_47 : decode c_Mo_assemble 47 = .ok (.getfield 16, 3) := by decide +kernel
theorem d_Mo_assemble_50 : decode c_Mo_assemble 50 = .ok (.iload_n 1, 1) := by decide +kernel
theorem d_Mo_assemble_51 : decode c_Mo_assemble 51 = .ok (.iload_n 1, 1) := by decide +kernel
theorem d_Mo_assemble_52 : decode c_Mo_assemble 52 = .ok (.aload_n 0, 1) := by decide +kernel
theorem d_Mo_assemble_53 : decode c_Mo_assemble 53 = .ok (.getfield 228, 3) := by decide +kernel
theorem d_Mo_assemble_56 : decode c_Mo_assemble 56 = .ok (.if_icmp .ge 12, 3) := by decide +kernel
theorem d_Mo_assemble_59 : decode c_Mo_assemble 59 = .ok (.aload_n 0, 1) := by decide +kernel
theorem d_Mo_assemble_60 : decode c_Mo_assemble 60 = .ok (.getfield 31, 3) := by decide +kernel
theorem d_Mo_assemble_63 : decode c_Mo_assemble 63 = .ok (.iload_n 1, 1) := by decide +kernel
theorem d_Mo_assemble_64 : decode c_Mo_assemble 64 = .ok (.iaload, 1) := by decide +kernel
theorem d_Mo_assemble_65 : decode c_Mo_assemble 65 = .ok (.goto 4, 3) := by decide +kernel
theorem d_Mo_assemble_68 : decode c_Mo_assemble 68 = .ok (.iconst 0, 1) := by decide +kernel
theorem d_Mo_assemble_69 : decode c_Mo_assemble 69 = .ok (.iastore, 1) := by decide +kernel
theorem d_Mo_assemble_70 : decode c_Mo_assemble 70 = .ok (.iinc 1 1, 3) := by decide +kernel
theorem d_Mo_assemble_73 : decode c_Mo_assemble 73 = .ok (.goto (-33), 3) := by decide +kernel
theorem d_Mo_assemble_76 : decode c_Mo_assemble 76 = .ok (.aload_n 0, 1) := by decide +kernel
theorem d_Mo_assemble_77 : decode c_Mo_assemble 77 = .ok (.iconst 0, 1) := by decide +kernel
end
section
theorem d_Mo_assemble_78 : decode c_Mo_assemble 78 = .ok (.putfield 84, 3) := by decide +kernel
theorem d_Mo_assemble_81 : decode c_Mo_assemble 81 = .ok (.aload_n 0, 1) := by decide +kernel
theorem d_Mo_assemble_82 : decode c_Mo_assemble 82 = .ok (.getfield 228, 3) := by decide +kernel
theorem d_Mo_assemble_85 : decode c_Mo_assemble 85 = .ok (.ireturn, 1) := by decide +kernel
theorem d_Mo_read_0 : decode c_Mo_read 0 = .ok (.aload_n 0, 1) := by decide +kernel
theorem d_Mo_read_1 : decode c_Mo_read 1 = .ok (.iconst 0, 1) := by decide +kernel
theorem d_Mo_read_2 : decode c_Mo_read 2 = .ok (.putfield 228, 3) := by decide +kernel
theorem d_Mo_read_5 : decode c_Mo_read 5 = .ok (.iconst 0, 1) := by decide +kernel
theorem d_Mo_read_6 : decode c_Mo_read 6 = .ok (.istore_n 1, 1) := by decide +kernel
theorem d_Mo_read_7 : decode c_Mo_read 7 = .ok (.iload_n 1, 1) := by decide +kernel
theorem d_Mo_read_8 : decode c_Mo_read 8 = .ok (.bipush 26, 2) := by decide +kernel
theorem d_Mo_read_10 : decode c_Mo_read 10 = .ok (.if_icmp .ge 16, 3) := by decide +kernel
theorem d_Mo_read_13 : decode c_Mo_read 13 = .ok (.aload_n 0, 1) := by decide +kernel
theorem d_Mo_read_14 : decode c_Mo_read 14 = .ok (.getfield 34, 3) := by decide +kernel
theorem d_Mo_read_17 : decode c_Mo_read 17 = .ok (.iload_n 1, 1) := by decide +kernel
theorem d_Mo_read_18 : decode c_Mo_read 18 = .ok (.iconst (-1), 1) := by decide +kernel
theorem d_Mo_read_19 : decode c_Mo_read 19 = .ok (.iastore, 1) := by decide +kernel
theorem d_Mo_read_20 : decode c_Mo_read 20 = .ok (.iinc 1 1, 3) := by decide +kernel
theorem d_Mo_read_23 : decode c_Mo_read 23 = .ok (.goto (-16), 3) := by decide +kernel
theorem d_Mo_read_26 : decode c_Mo_read 26 = .ok (.iconst 0, 1) := by decide +kernel
theorem d_Mo_read_27 : decode c_Mo_read 27 = .ok (.istore_n 1, 1) := by decide +kernel
theorem d_Mo_read_28 : decode c_Mo_read 28 = .ok (.iload_n 1, 1) := by decide +kernel
theorem d_Mo_read_29 : decode c_Mo_read 29 = .ok (.aload_n 0, 1) := by decide +kernel
theorem d_Mo_read_30 : decode c_Mo_read 30 = .ok (.getfield 235, 3) := by decide +kernel
theorem d_Mo_read_33 : decode c_Mo_read 33 = .ok (.if_icmp .ge 62, 3) := by decide +kernel
theorem d_Mo_read_36 : decode c_Mo_read 36 = .ok (.iload_n 1, 1) := by decide +kernel
theorem d_Mo_read_37 : decode c_Mo_read 37 = .ok (.istore_n 2, 1) := by decide +kernel
theorem d_Mo_read_38 : decode c_Mo_read 38 = .ok (.iload_n 2, 1) := by decide +kernel
theorem d_Mo_read_39 : decode c_Mo_read 39 = .ok (.aload_n 0, 1) := by decide +kernel
theorem d_Mo_read_40 : decode c_Mo_read 40 = .ok (.getfield 235, 3) := by decide +kernel
theorem d_Mo_read_43 : decode c_Mo_read 43 = .ok (.if_icmp .ge 20, 3) := by decide +kernel
theorem d_Mo_read_46 : decode c_Mo_read 46 = .ok (.aload_n 0, 1) := by decide +kernel
theorem d_Mo_read_47 : decode c_Mo_read 47 = .ok (.getfield 23, 3) := by decide +kernel
theorem d_Mo_read_50 : decode c_Mo_read 50 = .ok (.iload_n 2, 1) := by decide +kernel
theorem d_Mo_read_51 : decode c_Mo_read 51 = .ok (.caload, 1) := by decide +kernel
theorem d_Mo_read_52 : decode c_Mo_read 52 = .ok (.bipush 32, 2) := by decide +kernel
theorem d_Mo_read_54 : decode c_Mo_read 54 = .ok (.if_icmp .eq 9, 3) := by decide +kernel
theorem d_Mo_read_57 : decode c_Mo_read 57 = .ok (.iinc 2 1, 3) := by decide +kernel
theorem d_Mo_read_60 : decode c_Mo_read 60 = .ok (.goto (-22), 3) := by decide +kernel
theorem d_Mo_read_63 : decode c_Mo_read 63 = .ok (.iload_n 2, 1) := by decide +kernel
theorem d_Mo_read_64 : decode c_Mo_read 64 = .ok (.iload_n 1, 1) := by decide +kernel
theorem d_Mo_read_65 : decode c_Mo_read 65 = .ok (.if_icmp .le 14, 3) := by decide +kernel
theorem d_Mo_read_68 : decode c_Mo_read 68 = .ok (.aload_n 0, 1) := by decide +kernel
theorem d_Mo_read_69 : decode c_Mo_read 69 = .ok (.iload_n 1, 1) := by decide +kernel
theorem d_Mo_read_70 : decode c_Mo_read 70 = .ok (.iload_n 2, 1) := by decide +kernel
theorem d_Mo_read_71 : decode c_Mo_read 71 = .ok (.invokevirtual 238, 3) := by decide +kernel
theorem d_Mo_read_74 : decode c_Mo_read 74 = .ok (.ifCond .ne 5, 3) := by decide +kernel
theorem d_Mo_read_77 : decode c_Mo_read 77 = .ok (.iload_n 1, 1) := by decide +kernel
theorem d_Mo_read_78 : decode c_Mo_read 78 = .ok (.ireturn, 1) := by decide +kernel
theorem d_Mo_read_79 : decode c_Mo_read 79 = .ok (.iload_n 2, 1) := by decide +kernel
theorem d_Mo_read_80 : decode c_Mo_read 80 = .ok (.iload_n 1, 1) := by decide +kernel
theorem d_Mo_read_81 : decode c_Mo_read 81 = .ok (.if_icmp .le 7, 3) := by decide +kernel
theorem d_Mo_read_84 : decode c_Mo_read 84 = .ok (.iload_n 2, 1) := by decide +kernel
theorem d_Mo_read_85 : decode c_Mo_read 85 = .ok (.goto 6, 3) := by decide +kernel
theorem d_Mo_read_88 : decode c_Mo_read 88 = .ok (.iload_n 1, 1) := by decide +kernel
theorem d_Mo_read_89 : decode c_Mo_read 89 = .ok (.iconst 1, 1) := by decide +kernel
theorem d_Mo_read_90 : decode c_Mo_read 90 = .ok (.iadd, 1) := by decide +kernel
theorem d_Mo_read_91 : decode c_Mo_read 91 = .ok (.istore_n 1, 1) := by decide +kernel
theorem d_Mo_read_92 : decode c_Mo_read 92 = .ok (.goto (-64), 3) := by decide +kernel
theorem d_Mo_read_95 : decode c_Mo_read 95 = .ok (.iconst 0, 1) := by decide +kernel
theorem d_Mo_read_96 : decode c_Mo_read 96 = .ok (.istore_n 2, 1) := by decide +kernel
theorem d_Mo_read_97 : decode c_Mo_read 97 = .ok (.iload_n 2, 1) := by decide +kernel
theorem d_Mo_read_98 : decode c_Mo_read 98 = .ok (.aload_n 0, 1) := by decide +kernel
theorem d_Mo_read_99 : decode c_Mo_read 99 = .ok (.getfield 228, 3) := by decide +kernel
theorem d_Mo_read_102 : decode c_Mo_read 102 = .ok (.if_icmp .ge 73, 3) := by decide +kernel
theorem d_Mo_read_105 : decode c_Mo_read 105 = .ok (.aload_n 0, 1) := by decide +kernel
theorem d_Mo_read_106 : decode c_Mo_read 106 = .ok (.getfield 37, 3) := by decide +kernel
theorem d_Mo_read_109 : decode c_Mo_read 109 = .ok (.iload_n 2, 1) := by decide +kernel
theorem d_Mo_read_110 : decode c_Mo_read 110 = .ok (.iaload, 1) := by decide +kernel
theorem d_Mo_read_111 : decode c_Mo_read 111 = .ok (.ifCond .ge 6, 3) := by decide +kernel
theorem d_Mo_read_114 : decode c_Mo_read 114 = .ok (.goto 55, 3) := by decide +kernel
theorem d_Mo_read_117 : decode c_Mo_read 117 = .ok (.aload_n 0, 1) := by decide +kernel
theorem d_Mo_read_118 : decode c_Mo_read 118 = .ok (.getfield 34, 3) := by decide +kernel
theorem d_Mo_read_121 : decode c_Mo_read 121 = .ok (.aload_n 0, 1) := by decide +kernel
theorem d_Mo_read_122 : decode c_Mo_read 122 = .ok (.getfield 23, 3) := by decide +kernel
theorem d_Mo_read_125 : decode c_Mo_read 125 = .ok (.aload_n 0, 1) := by decide +kernel
theorem d_Mo_read_126 : decode c_Mo_read 126 = .ok (.getfield 37, 3) := by decide +kernel
theorem d_Mo_read_129 : decode c_Mo_read 129 = .ok (.iload_n 2, 1) := by decide +kernel
theorem d_Mo_read_130 : decode c_Mo_read 130 = .ok (.iaload, 1) := by decide +kernel
theorem d_Mo_read_131 : decode c_Mo_read 131 = .ok (.iconst 1, 1) := by decide +kernel
theorem d_Mo_read_132 : decode c_Mo_read 132 = .ok (.iadd, 1) := by decide +kernel
theorem d_Mo_read_133 : decode c_Mo_read 133 = .ok (.caload, 1) := by decide +kernel
theorem d_Mo_read_134 : decode c_Mo_read 134 = .ok (.bipush 97, 2) := by decide +kernel
theorem d_Mo_read_136 : decode c_Mo_read 136 = .ok (.isub, 1) := by decide +kernel
theorem d_Mo_read_137 : decode c_Mo_read 137 = .ok (.iaload, 1) := by decide +kernel
theorem d_Mo_read_138 : decode c_Mo_read 138 = .ok (.istore_n 3, 1) := by decide +kernel
theorem d_Mo_read_139 : decode c_Mo_read 139 = .ok (.iload_n 3, 1) := by decide +kernel
theorem d_Mo_read_140 : decode c_Mo_read 140 = .ok (.ifCond .ge 10, 3) := by decide +kernel
theorem d_Mo_read_143 : decode c_Mo_read 143 = .ok (.aload_n 0, 1) := by decide +kernel
theorem d_Mo_read_144 : decode c_Mo_read 144 = .ok (.getfield 37, 3) := by decide +kernel
theorem d_Mo_read_147 : decode c_Mo_read 147 = .ok (.iload_n 2, 1) := by decide +kernel
theorem d_Mo_read_148 : decode c_Mo_read 148 = .ok (.iaload, 1) := by decide +kernel
theorem d_Mo_read_149 : decode c_Mo_read 149 = .ok (.ireturn, 1) := by decide +kernel
theorem d_Mo_read_150 : decode c_Mo_read 150 = .ok (.aload_n 0, 1) := by decide +kernel
theorem d_Mo_read_151 : decode c_Mo_read 151 = .ok (.getfield 31, 3) := by decide +kernel
theorem d_Mo_read_154 : decode c_Mo_read 154 = .ok (.iload_n 2, 1) := by decide +kernel
theorem d_Mo_read_155 : decode c_Mo_read 155 = .ok (.aload_n 0, 1) := by decide +kernel
theorem d_Mo_read_156 : decode c_Mo_read 156 = .ok (.getfield 31, 3) := by decide +kernel
theorem d_Mo_read_159 : decode c_Mo_read 159 = .ok (.iload_n 2, 1) := by decide +kernel
theorem d_Mo_read_160 : decode c_Mo_read 160 = .ok (.iaload, 1) := by decide +kernel
theorem d_Mo_read_161 : decode c_Mo_read 161 = .ok (.iconst 4, 1) := by decide +kernel
theorem d_Mo_read_162 : decode c_Mo_read 162 = .ok (.iload_n 3, 1) := by decide +kernel
theorem d_Mo_read_163 : decode c_Mo_read 163 = .ok (.bipush 64, 2) := by decide +kernel
theorem d_Mo_read_165 : decode c_Mo_read 165 = .ok (.irem, 1) := by decide +kernel
theorem d_Mo_read_166 : decode c_Mo_read 166 = .ok (.imul, 1) := by decide +kernel
theorem d_Mo_read_167 : decode c_Mo_read 167 = .ok (.iadd, 1) := by decide +kernel
theorem d_Mo_read_168 : decode c_Mo_read 168 = .ok (.iastore, 1) := by decide +kernel
theorem d_Mo_read_169 : decode c_Mo_read 169 = .ok (.iinc 2 1, 3) := by decide +kernel
theorem d_Mo_read_172 : decode c_Mo_read 172 = .ok (.goto (-75), 3) := by decide +kernel
theorem d_Mo_read_175 : decode c_Mo_read 175 = .ok (.iconst (-1), 1) := by decide +kernel
theorem d_Mo_read_176 : decode c_Mo_read 176 = .ok (.ireturn, 1) := by decide +kernel
theorem d_Mo_take_0 : decode c_Mo_take 0 = .ok (.iload_n 2, 1) := by decide +kernel
theorem d_Mo_take_1 : decode c_Mo_take 1 = .ok (.iload_n 1, 1) := by decide +kernel
theorem d_Mo_take_2 : decode c_Mo_take 2 = .ok (.isub, 1) := by decide +kernel
theorem d_Mo_take_3 : decode c_Mo_take 3 = .ok (.iconst 2, 1) := by decide +kernel
theorem d_Mo_take_4 : decode c_Mo_take 4 = .ok (.if_icmp .ne 43, 3) := by decide +kernel
theorem d_Mo_take_7 : decode c_Mo_take 7 = .ok (.aload_n 0, 1) := by decide +kernel
theorem d_Mo_take_8 : decode c_Mo_take 8 = .ok (.getfield 23, 3) := by decide +kernel
theorem d_Mo_take_11 : decode c_Mo_take 11 = .ok (.iload_n 1, 1) := by decide +kernel
theorem d_Mo_take_12 : decode c_Mo_take 12 = .ok (.iconst 1, 1) := by decide +kernel
theorem d_Mo_take_13 : decode c_Mo_take 13 = .ok (.iadd, 1) := by decide +kernel
theorem d_Mo_take_14 : decode c_Mo_take 14 = .ok (.caload, 1) := by decide +kernel
theorem d_Mo_take_15 : decode c_Mo_take 15 = .ok (.bipush 97, 2) := by decide +kernel
theorem d_Mo_take_17 : decode c_Mo_take 17 = .ok (.if_icmp .lt 30, 3) := by decide +kernel
theorem d_Mo_take_20 : decode c_Mo_take 20 = .ok (.aload_n 0, 1) := by decide +kernel
theorem d_Mo_take_21 : decode c_Mo_take 21 = .ok (.getfield 23, 3) := by decide +kernel
theorem d_Mo_take_24 : decode c_Mo_take 24 = .ok (.iload_n 1, 1) := by decide +kernel
theorem d_Mo_take_25 : decode c_Mo_take 25 = .ok (.iconst 1, 1) := by decide +kernel
theorem d_Mo_take_26 : decode c_Mo_take 26 = .ok (.iadd, 1) := by decide +kernel
theorem d_Mo_take_27 : decode c_Mo_take 27 = .ok (.caload, 1) := by decide +kernel
theorem d_Mo_take_28 : decode c_Mo_take 28 = .ok (.bipush 122, 2) := by decide +kernel
theorem d_Mo_take_30 : decode c_Mo_take 30 = .ok (.if_icmp .gt 17, 3) := by decide +kernel
theorem d_Mo_take_33 : decode c_Mo_take 33 = .ok (.aload_n 0, 1) := by decide +kernel
theorem d_Mo_take_34 : decode c_Mo_take 34 = .ok (.getfield 23, 3) := by decide +kernel
theorem d_Mo_take_37 : decode c_Mo_take 37 = .ok (.iload_n 1, 1) := by decide +kernel
theorem d_Mo_take_38 : decode c_Mo_take 38 = .ok (.iconst 1, 1) := by decide +kernel
theorem d_Mo_take_39 : decode c_Mo_take 39 = .ok (.iadd, 1) := by decide +kernel
theorem d_Mo_take_40 : decode c_Mo_take 40 = .ok (.caload, 1) := by decide +kernel
theorem d_Mo_take_41 : decode c_Mo_take 41 = .ok (.bipush 97, 2) := by decide +kernel
theorem d_Mo_take_43 : decode c_Mo_take 43 = .ok (.isub, 1) := by decide +kernel
theorem d_Mo_take_44 : decode c_Mo_take 44 = .ok (.goto 4, 3) := by decide +kernel
theorem d_Mo_take_47 : decode c_Mo_take 47 = .ok (.iconst (-1), 1) := by decide +kernel
theorem d_Mo_take_48 : decode c_Mo_take 48 = .ok (.istore_n 3, 1) := by decide +kernel
theorem d_Mo_take_49 : decode c_Mo_take 49 = .ok (.iload_n 3, 1) := by decide +kernel
theorem d_Mo_take_50 : decode c_Mo_take 50 = .ok (.ifCond .lt 37, 3) := by decide +kernel
theorem d_Mo_take_53 : decode c_Mo_take 53 = .ok (.aload_n 0, 1) := by decide +kernel
theorem d_Mo_take_54 : decode c_Mo_take 54 = .ok (.getfield 23, 3) := by decide +kernel
theorem d_Mo_take_57 : decode c_Mo_take 57 = .ok (.iload_n 1, 1) := by decide +kernel
theorem d_Mo_take_58 : decode c_Mo_take 58 = .ok (.caload, 1) := by decide +kernel
theorem d_Mo_take_59 : decode c_Mo_take 59 = .ok (.bipush 58, 2) := by decide +kernel
theorem d_Mo_take_61 : decode c_Mo_take 61 = .ok (.if_icmp .ne 26, 3) := by decide +kernel
theorem d_Mo_take_64 : decode c_Mo_take 64 = .ok (.aload_n 0, 1) := by decide +kernel
theorem d_Mo_take_65 : decode c_Mo_take 65 = .ok (.getfield 34, 3) := by decide +kernel
theorem d_Mo_take_68 : decode c_Mo_take 68 = .ok (.iload_n 3, 1) := by decide +kernel
theorem d_Mo_take_69 : decode c_Mo_take 69 = .ok (.iaload, 1) := by decide +kernel
theorem d_Mo_take_70 : decode c_Mo_take 70 = .ok (.ifCond .lt 5, 3) := by decide +kernel
theorem d_Mo_take_73 : decode c_Mo_take 73 = .ok (.iconst 0, 1) := by decide +kernel
theorem d_Mo_take_74 : decode c_Mo_take 74 = .ok (.ireturn, 1) := by decide +kernel
theorem d_Mo_take_75 : decode c_Mo_take 75 = .ok (.aload_n 0, 1) := by decide +kernel
theorem d_Mo_take_76 : decode c_Mo_take 76 = .ok (.getfield 34, 3) := by decide +kernel
theorem d_Mo_take_79 : decode c_Mo_take 79 = .ok (.iload_n 3, 1) := by decide +kernel
theorem d_Mo_take_80 : decode c_Mo_take 80 = .ok (.aload_n 0, 1) := by decide +kernel
theorem d_Mo_take_81 : decode c_Mo_take 81 = .ok (.getfield 228, 3) := by decide +kernel
theorem d_Mo_take_84 : decode c_Mo_take 84 = .ok (.iastore, 1) := by decide +kernel
theorem d_Mo_take_85 : decode c_Mo_take 85 = .ok (.iconst 1, 1) := by decide +kernel
theorem d_Mo_take_86 : decode c_Mo_take 86 = .ok (.ireturn, 1) := by decide +kernel
theorem d_Mo_take_87 : decode c_Mo_take 87 = .ok (.iload_n 3, 1) := by decide +kernel
theorem d_Mo_take_88 : decode c_Mo_take 88 = .ok (.ifCond .lt 29, 3) := by decide +kernel
theorem d_Mo_take_91 : decode c_Mo_take 91 = .ok (.aload_n 0, 1) := by decide +kernel
theorem d_Mo_take_92 : decode c_Mo_take 92 = .ok (.getfield 23, 3) := by decide +kernel
theorem d_Mo_take_95 : decode c_Mo_take 95 = .ok (.iload_n 1, 1) := by decide +kernel
theorem d_Mo_take_96 : decode c_Mo_take 96 = .ok (.caload, 1) := by decide +kernel
theorem d_Mo_take_97 : decode c_Mo_take 97 = .ok (.bipush 62, 2) := by decide +kernel
theorem d_Mo_take_99 : decode c_Mo_take 99 = .ok (.if_icmp .eq 14, 3) := by decide +kernel
theorem d_Mo_take_102 : decode c_Mo_take 102 = .ok (.aload_n 0, 1) := by decide +kernel
theorem d_Mo_take_103 : decode c_Mo_take 103 = .ok (.getfield 23, 3) := by decide +kernel
theorem d_Mo_take_106 : decode c_Mo_take 106 = .ok (.iload_n 1, 1) := by decide +kernel
theorem d_Mo_take_107 : decode c_Mo_take 107 = .ok (.caload, 1) := by decide +kernel
theorem d_Mo_take_108 : decode c_Mo_take 108 = .ok (.bipush 64, 2) := by decide +kernel
theorem d_Mo_take_110 : decode c_Mo_take 110 = .ok (.if_icmp .ne 7, 3) := by decide +kernel
theorem d_Mo_take_113 : decode c_Mo_take 113 = .ok (.iconst 1, 1) := by decide +kernel
theorem d_Mo_take_114 : decode c_Mo_take 114 = .ok (.goto 4, 3) := by decide +kernel
theorem d_Mo_take_117 : decode c_Mo_take 117 = .ok (.iconst 0, 1) := by decide +kernel
theorem d_Mo_take_118 : decode c_Mo_take 118 = .ok (.istore 4, 2) := by decide +kernel
theorem d_Mo_take_120 : decode c_Mo_take 120 = .ok (.iload 4, 2) := by decide +kernel
theorem d_Mo_take_122 : decode c_Mo_take 122 = .ok (.ifCond .ne 12, 3) := by decide +kernel
theorem d_Mo_take_125 : decode c_Mo_take 125 = .ok (.aload_n 0, 1) := by decide +kernel
theorem d_Mo_take_126 : decode c_Mo_take 126 = .ok (.iload_n 1, 1) := by decide +kernel
theorem d_Mo_take_127 : decode c_Mo_take 127 = .ok (.iload_n 2, 1) := by decide +kernel
theorem d_Mo_take_128 : decode c_Mo_take 128 = .ok (.invokevirtual 231, 3) := by decide +kernel
theorem d_Mo_take_131 : decode c_Mo_take 131 = .ok (.goto 19, 3) := by decide +kernel
theorem d_Mo_take_134 : decode c_Mo_take 134 = .ok (.aload_n 0, 1) := by decide +kernel
theorem d_Mo_take_135 : decode c_Mo_take 135 = .ok (.getfield 23, 3) := by decide +kernel
theorem d_Mo_take_138 : decode c_Mo_take 138 = .ok (.iload_n 1, 1) := by decide +kernel
theorem d_Mo_take_139 : decode c_Mo_take 139 = .ok (.caload, 1) := by decide +kernel
theorem d_Mo_take_140 : decode c_Mo_take 140 = .ok (.bipush 62, 2) := by decide +kernel
theorem d_Mo_take_142 : decode c_Mo_take 142 = .ok (.if_icmp .ne 7, 3) := by decide +kernel
theorem d_Mo_take_145 : decode c_Mo_take 145 = .ok (.iconst 3, 1) := by decide +kernel
theorem d_Mo_take_146 : decode c_Mo_take 146 = .ok (.goto 4, 3) := by decide +kernel
theorem d_Mo_take_149 : decode c_Mo_take 149 = .ok (.iconst 1, 1) := by decide +kernel
theorem d_Mo_take_150 : decode c_Mo_take 150 = .ok (.istore 5, 2) := by decide +kernel
theorem d_Mo_take_152 : decode c_Mo_take 152 = .ok (.iload 5, 2) := by decide +kernel
theorem d_Mo_take_154 : decode c_Mo_take 154 = .ok (.ifCond .lt 12, 3) := by decide +kernel
theorem d_Mo_take_157 : decode c_Mo_take 157 = .ok (.aload_n 0, 1) := by decide +kernel
theorem d_Mo_take_158 : decode c_Mo_take 158 = .ok (.getfield 228, 3) := by decide +kernel
theorem d_Mo_take_161 : decode c_Mo_take 161 = .ok (.bipush 64, 2) := by decide +kernel
theorem d_Mo_take_163 : decode c_Mo_take 163 = .ok (.if_icmp .ne 5, 3) := by decide +kernel
theorem d_Mo_take_166 : decode c_Mo_take 166 = .ok (.iconst 0, 1) := by decide +kernel
theorem d_Mo_take_167 : decode c_Mo_take 167 = .ok (.ireturn, 1) := by decide +kernel
theorem d_Mo_take_168 : decode c_Mo_take 168 = .ok (.aload_n 0, 1) := by decide +kernel
theorem d_Mo_take_169 : decode c_Mo_take 169 = .ok (.getfield 37, 3) := by decide +kernel
theorem d_Mo_take_172 : decode c_Mo_take 172 = .ok (.aload_n 0, 1) := by decide +kernel
theorem d_Mo_take_173 : decode c_Mo_take 173 = .ok (.getfield 228, 3) := by decide +kernel
theorem d_Mo_take_176 : decode c_Mo_take 176 = .ok (.iload 4, 2) := by decide +kernel
theorem d_Mo_take_178 : decode c_Mo_take 178 = .ok (.ifCond .eq 7, 3) := by decide +kernel
theorem d_Mo_take_181 : decode c_Mo_take 181 = .ok (.iload_n 1, 1) := by decide +kernel
theorem d_Mo_take_182 : decode c_Mo_take 182 = .ok (.goto 4, 3) := by decide +kernel
theorem d_Mo_take_185 : decode c_Mo_take 185 = .ok (.iconst (-1), 1) := by decide +kernel
theorem d_Mo_take_186 : decode c_Mo_take 186 = .ok (.iastore, 1) := by decide +kernel
theorem d_Mo_take_187 : decode c_Mo_take 187 = .ok (.aload_n 0, 1) := by decide +kernel
theorem d_Mo_take_188 : decode c_Mo_take 188 = .ok (.getfield 31, 3) := by decide +kernel
theorem d_Mo_take_191 : decode c_Mo_take 191 = .ok (.aload_n 0, 1) := by decide +kernel
theorem d_Mo_take_192 : decode c_Mo_take 192 = .ok (.getfield 228, 3) := by decide +kernel
theorem d_Mo_take_195 : decode c_Mo_take 195 = .ok (.iload 5, 2) := by decide +kernel
theorem d_Mo_take_197 : decode c_Mo_take 197 = .ok (.iastore, 1) := by decide +kernel
theorem d_Mo_take_198 : decode c_Mo_take 198 = .ok (.aload_n 0, 1) := by decide +kernel
theorem d_Mo_take_199 : decode c_Mo_take 199 = .ok (.dup, 1) := by decide +kernel
theorem d_Mo_take_200 : decode c_Mo_take 200 = .ok (.getfield 228, 3) := by decide +kernel
theorem d_Mo_take_203 : decode c_Mo_take 203 = .ok (.iconst 1, 1) := by decide +kernel
theorem d_Mo_take_204 : decode c_Mo_take 204 = .ok (.iadd, 1) := by decide +kernel
theorem d_Mo_take_205 : decode c_Mo_take 205 = .ok (.putfield 228, 3) := by decide +kernel
theorem d_Mo_take_208 : decode c_Mo_take 208 = .ok (.iconst 1, 1) := by decide +kernel
theorem d_Mo_take_209 : decode c_Mo_take 209 = .ok (.ireturn, 1) := by decide +kernel
theorem d_Mo_wordOf_0 : decode c_Mo_wordOf 0 = .ok (.iconst 0, 1) := by decide +kernel
theorem d_Mo_wordOf_1 : decode c_Mo_wordOf 1 = .ok (.istore_n 3, 1) := by decide +kernel
theorem d_Mo_wordOf_2 : decode c_Mo_wordOf 2 = .ok (.iload_n 3, 1) := by decide +kernel
theorem d_Mo_wordOf_3 : decode c_Mo_wordOf 3 = .ok (.bipush 16, 2) := by decide +kernel
theorem d_Mo_wordOf_5 : decode c_Mo_wordOf 5 = .ok (.if_icmp .ge 80, 3) := by decide +kernel
theorem d_Mo_wordOf_8 : decode c_Mo_wordOf 8 = .ok (.iload_n 3, 1) := by decide +kernel
theorem d_Mo_wordOf_9 : decode c_Mo_wordOf 9 = .ok (.invokestatic 207, 3) := by decide +kernel
theorem d_Mo_wordOf_12 : decode c_Mo_wordOf 12 = .ok (.istore 4, 2) := by decide +kernel
theorem d_Mo_wordOf_14 : decode c_Mo_wordOf 14 = .ok (.iload 4, 2) := by decide +kernel
theorem d_Mo_wordOf_16 : decode c_Mo_wordOf 16 = .ok (.iload_n 2, 1) := by decide +kernel
theorem d_Mo_wordOf_17 : decode c_Mo_wordOf 17 = .ok (.iload_n 1, 1) := by decide +kernel
theorem d_Mo_wordOf_18 : decode c_Mo_wordOf 18 = .ok (.isub, 1) := by decide +kernel
theorem d_Mo_wordOf_19 : decode c_Mo_wordOf 19 = .ok (.if_icmp .ge 60, 3) := by decide +kernel
theorem d_Mo_wordOf_22 : decode c_Mo_wordOf 22 = .ok (.aload_n 0, 1) := by decide +kernel
theorem d_Mo_wordOf_23 : decode c_Mo_wordOf 23 = .ok (.iload_n 1, 1) := by decide +kernel
theorem d_Mo_wordOf_24 : decode c_Mo_wordOf 24 = .ok (.iload_n 2, 1) := by decide +kernel
theorem d_Mo_wordOf_25 : decode c_Mo_wordOf 25 = .ok (.iload 4, 2) := by decide +kernel
theorem d_Mo_wordOf_27 : decode c_Mo_wordOf 27 = .ok (.invokevirtual 211, 3) := by decide +kernel
theorem d_Mo_wordOf_30 : decode c_Mo_wordOf 30 = .ok (.iload_n 3, 1) := by decide +kernel
theorem d_Mo_wordOf_31 : decode c_Mo_wordOf 31 = .ok (.invokestatic 215, 3) := by decide +kernel
theorem d_Mo_wordOf_34 : decode c_Mo_wordOf 34 = .ok (.lcmp, 1) := by decide +kernel
theorem d_Mo_wordOf_35 : decode c_Mo_wordOf 35 = .ok (.ifCond .eq 6, 3) := by decide +kernel
theorem d_Mo_wordOf_38 : decode c_Mo_wordOf 38 = .ok (.goto 41, 3) := by decide +kernel
theorem d_Mo_wordOf_41 : decode c_Mo_wordOf 41 = .ok (.iload 4, 2) := by decide +kernel
theorem d_Mo_wordOf_43 : decode c_Mo_wordOf 43 = .ok (.ifCond .ge 7, 3) := by decide +kernel
theorem d_Mo_wordOf_46 : decode c_Mo_wordOf 46 = .ok (.iconst 0, 1) := by decide +kernel
theorem d_Mo_wordOf_47 : decode c_Mo_wordOf 47 = .ok (.goto 15, 3) := by decide +kernel
theorem d_Mo_wordOf_50 : decode c_Mo_wordOf 50 = .ok (.aload_n 0, 1) := by decide +kernel
theorem d_Mo_wordOf_51 : decode c_Mo_wordOf 51 = .ok (.getfield 23, 3) := by decide +kernel
theorem d_Mo_wordOf_54 : decode c_Mo_wordOf 54 = .ok (.iload_n 1, 1) := by decide +kernel
theorem d_Mo_wordOf_55 : decode c_Mo_wordOf 55 = .ok (.iload 4, 2) := by decide +kernel
theorem d_Mo_wordOf_57 : decode c_Mo_wordOf 57 = .ok (.iadd, 1) := by decide +kernel
theorem d_Mo_wordOf_58 : decode c_Mo_wordOf 58 = .ok (.caload, 1) := by decide +kernel
theorem d_Mo_wordOf_59 : decode c_Mo_wordOf 59 = .ok (.invokestatic 218, 3) := by decide +kernel
theorem d_Mo_wordOf_62 : decode c_Mo_wordOf 62 = .ok (.istore 5, 2) := by decide +kernel
theorem d_Mo_wordOf_64 : decode c_Mo_wordOf 64 = .ok (.iload 5, 2) := by decide +kernel
theorem d_Mo_wordOf_66 : decode c_Mo_wordOf 66 = .ok (.ifCond .lt 13, 3) := by decide +kernel
theorem d_Mo_wordOf_69 : decode c_Mo_wordOf 69 = .ok (.bipush 64, 2) := by decide +kernel
theorem d_Mo_wordOf_71 : decode c_Mo_wordOf 71 = .ok (.iload 5, 2) := by decide +kernel
theorem d_Mo_wordOf_73 : decode c_Mo_wordOf 73 = .ok (.imul, 1) := by decide +kernel
theorem d_Mo_wordOf_74 : decode c_Mo_wordOf 74 = .ok (.iconst 4, 1) := by decide +kernel
theorem d_Mo_wordOf_75 : decode c_Mo_wordOf 75 = .ok (.iload_n 3, 1) := by decide +kernel
theorem d_Mo_wordOf_76 : decode c_Mo_wordOf 76 = .ok (.imul, 1) := by decide +kernel
theorem d_Mo_wordOf_77 : decode c_Mo_wordOf 77 = .ok (.iadd, 1) := by decide +kernel
theorem d_Mo_wordOf_78 : decode c_Mo_wordOf 78 = .ok (.ireturn, 1) := by decide +kernel
theorem d_Mo_wordOf_79 : decode c_Mo_wordOf 79 = .ok (.iinc 3 1, 3) := by decide +kernel
theorem d_Mo_wordOf_82 : decode c_Mo_wordOf 82 = .ok (.goto (-80), 3) := by decide +kernel
theorem d_Mo_wordOf_85 : decode c_Mo_wordOf 85 = .ok (.iload_n 2, 1) := by decide +kernel
theorem d_Mo_wordOf_86 : decode c_Mo_wordOf 86 = .ok (.iload_n 1, 1) := by decide +kernel
theorem d_Mo_wordOf_87 : decode c_Mo_wordOf 87 = .ok (.isub, 1) := by decide +kernel
theorem d_Mo_wordOf_88 : decode c_Mo_wordOf 88 = .ok (.iconst 3, 1) := by decide +kernel
theorem d_Mo_wordOf_89 : decode c_Mo_wordOf 89 = .ok (.if_icmp .lt 16, 3) := by decide +kernel
theorem d_Mo_wordOf_92 : decode c_Mo_wordOf 92 = .ok (.aload_n 0, 1) := by decide +kernel
theorem d_Mo_wordOf_93 : decode c_Mo_wordOf 93 = .ok (.getfield 23, 3) := by decide +kernel
theorem d_Mo_wordOf_96 : decode c_Mo_wordOf 96 = .ok (.iload_n 2, 1) := by decide +kernel
theorem d_Mo_wordOf_97 : decode c_Mo_wordOf 97 = .ok (.iconst 2, 1) := by decide +kernel
theorem d_Mo_wordOf_98 : decode c_Mo_wordOf 98 = .ok (.isub, 1) := by decide +kernel
theorem d_Mo_wordOf_99 : decode c_Mo_wordOf 99 = .ok (.caload, 1) := by decide +kernel
theorem d_Mo_wordOf_100 : decode c_Mo_wordOf 100 = .ok (.bipush 46, 2) := by decide +kernel
theorem d_Mo_wordOf_102 : decode c_Mo_wordOf 102 = .ok (.if_icmp .eq 5, 3) := by decide +kernel
theorem d_Mo_wordOf_105 : decode c_Mo_wordOf 105 = .ok (.iconst (-1), 1) := by decide +kernel
theorem d_Mo_wordOf_106 : decode c_Mo_wordOf 106 = .ok (.ireturn, 1) := by decide +kernel
theorem d_Mo_wordOf_107 : decode c_Mo_wordOf 107 = .ok (.aload_n 0, 1) := by decide +kernel
theorem d_Mo_wordOf_108 : decode c_Mo_wordOf 108 = .ok (.getfield 23, 3) := by decide +kernel
theorem d_Mo_wordOf_111 : decode c_Mo_wordOf 111 = .ok (.iload_n 2, 1) := by decide +kernel
theorem d_Mo_wordOf_112 : decode c_Mo_wordOf 112 = .ok (.iconst 1, 1) := by decide +kernel
theorem d_Mo_wordOf_113 : decode c_Mo_wordOf 113 = .ok (.isub, 1) := by decide +kernel
theorem d_Mo_wordOf_114 : decode c_Mo_wordOf 114 = .ok (.caload, 1) := by decide +kernel
theorem d_Mo_wordOf_115 : decode c_Mo_wordOf 115 = .ok (.invokestatic 222, 3) := by decide +kernel
theorem d_Mo_wordOf_118 : decode c_Mo_wordOf 118 = .ok (.istore_n 3, 1) := by decide +kernel
theorem d_Mo_wordOf_119 : decode c_Mo_wordOf 119 = .ok (.aload_n 0, 1) := by decide +kernel
theorem d_Mo_wordOf_120 : decode c_Mo_wordOf 120 = .ok (.iload_n 1, 1) := by decide +kernel
theorem d_Mo_wordOf_121 : decode c_Mo_wordOf 121 = .ok (.iload_n 2, 1) := by decide +kernel
theorem d_Mo_wordOf_122 : decode c_Mo_wordOf 122 = .ok (.iconst 2, 1) := by decide +kernel
theorem d_Mo_wordOf_123 : decode c_Mo_wordOf 123 = .ok (.isub, 1) := by decide +kernel
theorem d_Mo_wordOf_124 : decode c_Mo_wordOf 124 = .ok (.iconst (-1), 1) := by decide +kernel
theorem d_Mo_wordOf_125 : decode c_Mo_wordOf 125 = .ok (.invokevirtual 211, 3) := by decide +kernel
theorem d_Mo_wordOf_128 : decode c_Mo_wordOf 128 = .ok (.lstore 4, 2) := by decide +kernel
theorem d_Mo_wordOf_130 : decode c_Mo_wordOf 130 = .ok (.iconst 0, 1) := by decide +kernel
theorem d_Mo_wordOf_131 : decode c_Mo_wordOf 131 = .ok (.istore 6, 2) := by decide +kernel
theorem d_Mo_wordOf_133 : decode c_Mo_wordOf 133 = .ok (.iload 6, 2) := by decide +kernel
theorem d_Mo_wordOf_135 : decode c_Mo_wordOf 135 = .ok (.bipush 32, 2) := by decide +kernel
theorem d_Mo_wordOf_137 : decode c_Mo_wordOf 137 = .ok (.if_icmp .ge 36, 3) := by decide +kernel
theorem d_Mo_wordOf_140 : decode c_Mo_wordOf 140 = .ok (.iload_n 3, 1) := by decide +kernel
theorem d_Mo_wordOf_141 : decode c_Mo_wordOf 141 = .ok (.ifCond .lt 32, 3) := by decide +kernel
theorem d_Mo_wordOf_144 : decode c_Mo_wordOf 144 = .ok (.lload 4, 2) := by decide +kernel
theorem d_Mo_wordOf_146 : decode c_Mo_wordOf 146 = .ok (.iload 6, 2) := by decide +kernel
theorem d_Mo_wordOf_148 : decode c_Mo_wordOf 148 = .ok (.invokestatic 225, 3) := by decide +kernel
theorem d_Mo_wordOf_151 : decode c_Mo_wordOf 151 = .ok (.lcmp, 1) := by decide +kernel
theorem d_Mo_wordOf_152 : decode c_Mo_wordOf 152 = .ok (.ifCond .ne 15, 3) := by decide +kernel
theorem d_Mo_wordOf_155 : decode c_Mo_wordOf 155 = .ok (.bipush 32, 2) := by decide +kernel
theorem d_Mo_wordOf_157 : decode c_Mo_wordOf 157 = .ok (.iload 6, 2) := by decide +kernel
theorem d_Mo_wordOf_159 : decode c_Mo_wordOf 159 = .ok (.imul, 1) := by decide +kernel
theorem d_Mo_wordOf_160 : decode c_Mo_wordOf 160 = .ok (.iconst 4, 1) := by decide +kernel
theorem d_Mo_wordOf_161 : decode c_Mo_wordOf 161 = .ok (.iload_n 3, 1) := by decide +kernel
theorem d_Mo_wordOf_162 : decode c_Mo_wordOf 162 = .ok (.imul, 1) := by decide +kernel
theorem d_Mo_wordOf_163 : decode c_Mo_wordOf 163 = .ok (.iadd, 1) := by decide +kernel
theorem d_Mo_wordOf_164 : decode c_Mo_wordOf 164 = .ok (.iconst 2, 1) := by decide +kernel
theorem d_Mo_wordOf_165 : decode c_Mo_wordOf 165 = .ok (.iadd, 1) := by decide +kernel
theorem d_Mo_wordOf_166 : decode c_Mo_wordOf 166 = .ok (.ireturn, 1) := by decide +kernel
theorem d_Mo_wordOf_167 : decode c_Mo_wordOf 167 = .ok (.iinc 6 1, 3) := by decide +kernel
theorem d_Mo_wordOf_170 : decode c_Mo_wordOf 170 = .ok (.goto (-37), 3) := by decide +kernel
theorem d_Mo_wordOf_173 : decode c_Mo_wordOf 173 = .ok (.iconst (-1), 1) := by decide +kernel
theorem d_Mo_wordOf_174 : decode c_Mo_wordOf 174 = .ok (.ireturn, 1) := by decide +kernel
theorem d_Mo_numberAt_0 : decode c_Mo_numberAt 0 = .ok (.iload_n 0, 1) := by decide +kernel
theorem d_Mo_numberAt_1 : decode c_Mo_numberAt 1 = .ok (.iconst 2, 1) := by decide +kernel
theorem d_Mo_numberAt_2 : decode c_Mo_numberAt 2 = .ok (.if_icmp .ne 7, 3) := by decide +kernel
theorem d_Mo_numberAt_5 : decode c_Mo_numberAt 5 = .ok (.iconst 3, 1) := by decide +kernel
theorem d_Mo_numberAt_6 : decode c_Mo_numberAt 6 = .ok (.goto 38, 3) := by decide +kernel
theorem d_Mo_numberAt_9 : decode c_Mo_numberAt 9 = .ok (.iload_n 0, 1) := by decide +kernel
theorem d_Mo_numberAt_10 : decode c_Mo_numberAt 10 = .ok (.iconst 1, 1) := by decide +kernel
theorem d_Mo_numberAt_11 : decode c_Mo_numberAt 11 = .ok (.if_icmp .eq 8, 3) := by decide +kernel
theorem d_Mo_numberAt_14 : decode c_Mo_numberAt 14 = .ok (.iload_n 0, 1) := by decide +kernel
theorem d_Mo_numberAt_15 : decode c_Mo_numberAt 15 = .ok (.iconst 5, 1) := by decide +kernel
theorem d_Mo_numberAt_16 : decode c_Mo_numberAt 16 = .ok (.if_icmp .ne 7, 3) := by decide +kernel
theorem d_Mo_numberAt_19 : decode c_Mo_numberAt 19 = .ok (.iconst 2, 1) := by decide +kernel
theorem d_Mo_numberAt_20 : decode c_Mo_numberAt 20 = .ok (.goto 24, 3) := by decide +kernel
theorem d_Mo_numberAt_23 : decode c_Mo_numberAt 23 = .ok (.iload_n 0, 1) := by decide +kernel
theorem d_Mo_numberAt_24 : decode c_Mo_numberAt 24 = .ok (.iconst 3, 1) := by decide +kernel
theorem d_Mo_numberAt_25 : decode c_Mo_numberAt 25 = .ok (.if_icmp .eq 14, 3) := by decide +kernel
theorem d_Mo_numberAt_28 : decode c_Mo_numberAt 28 = .ok (.iload_n 0, 1) := by decide +kernel
theorem d_Mo_numberAt_29 : decode c_Mo_numberAt 29 = .ok (.iconst 4, 1) := by decide +kernel
theorem d_Mo_numberAt_30 : decode c_Mo_numberAt 30 = .ok (.if_icmp .eq 9, 3) := by decide +kernel
theorem d_Mo_numberAt_33 : decode c_Mo_numberAt 33 = .ok (.iload_n 0, 1) := by decide +kernel
theorem d_Mo_numberAt_34 : decode c_Mo_numberAt 34 = .ok (.bipush 6, 2) := by decide +kernel
theorem d_Mo_numberAt_36 : decode c_Mo_numberAt 36 = .ok (.if_icmp .ne 7, 3) := by decide +kernel
theorem d_Mo_numberAt_39 : decode c_Mo_numberAt 39 = .ok (.iconst 1, 1) := by decide +kernel
theorem d_Mo_numberAt_40 : decode c_Mo_numberAt 40 = .ok (.goto 4, 3) := by decide +kernel
theorem d_Mo_numberAt_43 : decode c_Mo_numberAt 43 = .ok (.iconst (-1), 1) := by decide +kernel
theorem d_Mo_numberAt_44 : decode c_Mo_numberAt 44 = .ok (.ireturn, 1) := by decide +kernel
theorem d_Mo_name_0 : decode c_Mo_name 0 = .ok (.iload_n 2, 1) := by decide +kernel
theorem d_Mo_name_1 : decode c_Mo_name 1 = .ok (.iload_n 1, 1) := by decide +kernel
theorem d_Mo_name_2 : decode c_Mo_name 2 = .ok (.isub, 1) := by decide +kernel
theorem d_Mo_name_3 : decode c_Mo_name 3 = .ok (.bipush 6, 2) := by decide +kernel
theorem d_Mo_name_5 : decode c_Mo_name 5 = .ok (.if_icmp .le 5, 3) := by decide +kernel
theorem d_Mo_name_8 : decode c_Mo_name 8 = .ok (.lconst 0, 1) := by decide +kernel
theorem d_Mo_name_9 : decode c_Mo_name 9 = .ok (.lreturn, 1) := by decide +kernel
theorem d_Mo_name_10 : decode c_Mo_name 10 = .ok (.lconst 0, 1) := by decide +kernel
theorem d_Mo_name_11 : decode c_Mo_name 11 = .ok (.lstore 4, 2) := by decide +kernel
theorem d_Mo_name_13 : decode c_Mo_name 13 = .ok (.iload_n 1, 1) := by decide +kernel
theorem d_Mo_name_14 : decode c_Mo_name 14 = .ok (.istore 6, 2) := by decide +kernel
theorem d_Mo_name_16 : decode c_Mo_name 16 = .ok (.iload 6, 2) := by decide +kernel
theorem d_Mo_name_18 : decode c_Mo_name 18 = .ok (.iload_n 2, 1) := by decide +kernel
theorem d_Mo_name_19 : decode c_Mo_name 19 = .ok (.if_icmp .ge 38, 3) := by decide +kernel
theorem d_Mo_name_22 : decode c_Mo_name 22 = .ok (.lload 4, 2) := by decide +kernel
theorem d_Mo_name_24 : decode c_Mo_name 24 = .ok (.bipush 8, 2) := by decide +kernel
theorem d_Mo_name_26 : decode c_Mo_name 26 = .ok (.lshl, 1) := by decide +kernel
theorem d_Mo_name_27 : decode c_Mo_name 27 = .ok (.iload 6, 2) := by decide +kernel
theorem d_Mo_name_29 : decode c_Mo_name 29 = .ok (.iload_n 1, 1) := by decide +kernel
theorem d_Mo_name_30 : decode c_Mo_name 30 = .ok (.isub, 1) := by decide +kernel
theorem d_Mo_name_31 : decode c_Mo_name 31 = .ok (.iload_n 3, 1) := by decide +kernel
theorem d_Mo_name_32 : decode c_Mo_name 32 = .ok (.if_icmp .ne 8, 3) := by decide +kernel
theorem d_Mo_name_35 : decode c_Mo_name 35 = .ok (.bipush 35, 2) := by decide +kernel
theorem d_Mo_name_37 : decode c_Mo_name 37 = .ok (.goto 10, 3) := by decide +kernel
theorem d_Mo_name_40 : decode c_Mo_name 40 = .ok (.aload_n 0, 1) := by decide +kernel
theorem d_Mo_name_41 : decode c_Mo_name 41 = .ok (.getfield 23, 3) := by decide +kernel
theorem d_Mo_name_44 : decode c_Mo_name 44 = .ok (.iload 6, 2) := by decide +kernel
theorem d_Mo_name_46 : decode c_Mo_name 46 = .ok (.caload, 1) := by decide +kernel
theorem d_Mo_name_47 : decode c_Mo_name 47 = .ok (.i2l, 1) := by decide +kernel
theorem d_Mo_name_48 : decode c_Mo_name 48 = .ok (.lor, 1) := by decide +kernel
theorem d_Mo_name_49 : decode c_Mo_name 49 = .ok (.lstore 4, 2) := by decide +kernel
theorem d_Mo_name_51 : decode c_Mo_name 51 = .ok (.iinc 6 1, 3) := by decide +kernel
theorem d_Mo_name_54 : decode c_Mo_name 54 = .ok (.goto (-38), 3) := by decide +kernel
theorem d_Mo_name_57 : decode c_Mo_name 57 = .ok (.lload 4, 2) := by decide +kernel
theorem d_Mo_name_59 : decode c_Mo_name 59 = .ok (.lreturn, 1) := by decide +kernel
theorem d_Mo_control_0 : decode c_Mo_control 0 = .ok (.iload_n 0, 1) := by decide +kernel
theorem d_Mo_control_1 : decode c_Mo_control 1 = .ok (.tableswitch 135 0 14 #[75, 79, 83, 87, 91, 95, 99, 103, 107, 111, 115, 119, 123, 127, 131], 75) := by decide +kernel
theorem d_Mo_control_76 : decode c_Mo_control 76 = .ok (.ldc2_w 111, 3) := by decide +kernel
theorem d_Mo_control_79 : decode c_Mo_control 79 = .ok (.lreturn, 1) := by decide +kernel
theorem d_Mo_control_80 : decode c_Mo_control 80 = .ok (.ldc2_w 113, 3) := by decide +kernel
theorem d_Mo_control_83 : decode c_Mo_control 83 = .ok (.lreturn, 1) := by decide +kernel
theorem d_Mo_control_84 : decode c_Mo_control 84 = .ok (.ldc2_w 115, 3) := by decide +kernel
theorem d_Mo_control_87 : decode c_Mo_control 87 = .ok (.lreturn, 1) := by decide +kernel
theorem d_Mo_control_88 : decode c_Mo_control 88 = .ok (.ldc2_w 117, 3) := by decide +kernel
theorem d_Mo_control_91 : decode c_Mo_control 91 = .ok (.lreturn, 1) := by decide +kernel
theorem d_Mo_control_92 : decode c_Mo_control 92 = .ok (.ldc2_w 119, 3) := by decide +kernel
theorem d_Mo_control_95 : decode c_Mo_control 95 = .ok (.lreturn, 1) := by decide +kernel
theorem d_Mo_control_96 : decode c_Mo_control 96 = .ok (.ldc2_w 121, 3) := by decide +kernel
theorem d_Mo_control_99 : decode c_Mo_control 99 = .ok (.lreturn, 1) := by decide +kernel
theorem d_Mo_control_100 : decode c_Mo_control 100 = .ok (.ldc2_w 123, 3) := by decide +kernel
theorem d_Mo_control_103 : decode c_Mo_control 103 = .ok (.lreturn, 1) := by decide +kernel
theorem d_Mo_control_104 : decode c_Mo_control 104 = .ok (.ldc2_w 125, 3) := by decide +kernel
theorem d_Mo_control_107 : decode c_Mo_control 107 = .ok (.lreturn, 1) := by decide +kernel
theorem d_Mo_control_108 : decode c_Mo_control 108 = .ok (.ldc2_w 127, 3) := by decide +kernel
theorem d_Mo_control_111 : decode c_Mo_control 111 = .ok (.lreturn, 1) := by decide +kernel
theorem d_Mo_control_112 : decode c_Mo_control 112 = .ok (.ldc2_w 129, 3) := by decide +kernel
theorem d_Mo_control_115 : decode c_Mo_control 115 = .ok (.lreturn, 1) := by decide +kernel
theorem d_Mo_control_116 : decode c_Mo_control 116 = .ok (.ldc2_w 131, 3) := by decide +kernel
theorem d_Mo_control_119 : decode c_Mo_control 119 = .ok (.lreturn, 1) := by decide +kernel
theorem d_Mo_control_120 : decode c_Mo_control 120 = .ok (.ldc2_w 133, 3) := by decide +kernel
theorem d_Mo_control_123 : decode c_Mo_control 123 = .ok (.lreturn, 1) := by decide +kernel
theorem d_Mo_control_124 : decode c_Mo_control 124 = .ok (.ldc2_w 135, 3) := by decide +kernel
theorem d_Mo_control_127 : decode c_Mo_control 127 = .ok (.lreturn, 1) := by decide +kernel
theorem d_Mo_control_128 : decode c_Mo_control 128 = .ok (.ldc2_w 137, 3) := by decide +kernel
theorem d_Mo_control_131 : decode c_Mo_control 131 = .ok (.lreturn, 1) := by decide +kernel
theorem d_Mo_control_132 : decode c_Mo_control 132 = .ok (.ldc2_w 139, 3) := by decide +kernel
theorem d_Mo_control_135 : decode c_Mo_control 135 = .ok (.lreturn, 1) := by decide +kernel
theorem d_Mo_control_136 : decode c_Mo_control 136 = .ok (.ldc2_w 141, 3) := by decide +kernel
theorem d_Mo_control_139 : decode c_Mo_control 139 = .ok (.lreturn, 1) := by decide +kernel
theorem d_Mo_digit_0 : decode c_Mo_digit 0 = .ok (.iload_n 0, 1) := by decide +kernel
theorem d_Mo_digit_1 : decode c_Mo_digit 1 = .ok (.bipush 48, 2) := by decide +kernel
theorem d_Mo_digit_3 : decode c_Mo_digit 3 = .ok (.if_icmp .lt 16, 3) := by decide +kernel
theorem d_Mo_digit_6 : decode c_Mo_digit 6 = .ok (.iload_n 0, 1) := by decide +kernel
theorem d_Mo_digit_7 : decode c_Mo_digit 7 = .ok (.bipush 57, 2) := by decide +kernel
theorem d_Mo_digit_9 : decode c_Mo_digit 9 = .ok (.if_icmp .gt 10, 3) := by decide +kernel
theorem d_Mo_digit_12 : decode c_Mo_digit 12 = .ok (.iload_n 0, 1) := by decide +kernel
theorem d_Mo_digit_13 : decode c_Mo_digit 13 = .ok (.bipush 48, 2) := by decide +kernel
theorem d_Mo_digit_15 : decode c_Mo_digit 15 = .ok (.isub, 1) := by decide +kernel
theorem d_Mo_digit_16 : decode c_Mo_digit 16 = .ok (.goto 26, 3) := by decide +kernel
theorem d_Mo_digit_19 : decode c_Mo_digit 19 = .ok (.iload_n 0, 1) := by decide +kernel
theorem d_Mo_digit_20 : decode c_Mo_digit 20 = .ok (.bipush 97, 2) := by decide +kernel
theorem d_Mo_digit_22 : decode c_Mo_digit 22 = .ok (.if_icmp .lt 19, 3) := by decide +kernel
theorem d_Mo_digit_25 : decode c_Mo_digit 25 = .ok (.iload_n 0, 1) := by decide +kernel
theorem d_Mo_digit_26 : decode c_Mo_digit 26 = .ok (.bipush 102, 2) := by decide +kernel
theorem d_Mo_digit_28 : decode c_Mo_digit 28 = .ok (.if_icmp .gt 13, 3) := by decide +kernel
theorem d_Mo_digit_31 : decode c_Mo_digit 31 = .ok (.iload_n 0, 1) := by decide +kernel
theorem d_Mo_digit_32 : decode c_Mo_digit 32 = .ok (.bipush 97, 2) := by decide +kernel
end
section
theorem d_Mo_digit_34 : decode c_Mo_digit 34 = .ok (.isub, 1) := by decide +kernel
theorem d_Mo_digit_35 : decode c_Mo_digit 35 = .ok (.bipush 10, 2) := by decide +kernel
theorem d_Mo_digit_37 : decode c_Mo_digit 37 = .ok (.iadd, 1) := by decide +kernel
theorem d_Mo_digit_38 : decode c_Mo_digit 38 = .ok (.goto 4, 3) := by decide +kernel
theorem d_Mo_digit_41 : decode c_Mo_digit 41 = .ok (.iconst (-1), 1) := by decide +kernel
theorem d_Mo_digit_42 : decode c_Mo_digit 42 = .ok (.ireturn, 1) := by decide +kernel
theorem d_Mo_fieldOf_0 : decode c_Mo_fieldOf 0 = .ok (.iload_n 0, 1) := by decide +kernel
theorem d_Mo_fieldOf_1 : decode c_Mo_fieldOf 1 = .ok (.tableswitch 113 101 120 #[99, 113, 113, 113, 113, 113, 113, 113, 105, 107, 113, 95, 97, 113, 103, 113, 113, 113, 110, 101], 95) := by decide +kernel
theorem d_Mo_fieldOf_96 : decode c_Mo_fieldOf 96 = .ok (.iconst 0, 1) := by decide +kernel
theorem d_Mo_fieldOf_97 : decode c_Mo_fieldOf 97 = .ok (.ireturn, 1) := by decide +kernel
theorem d_Mo_fieldOf_98 : decode c_Mo_fieldOf 98 = .ok (.iconst 1, 1) := by decide +kernel
theorem d_Mo_fieldOf_99 : decode c_Mo_fieldOf 99 = .ok (.ireturn, 1) := by decide +kernel
theorem d_Mo_fieldOf_100 : decode c_Mo_fieldOf 100 = .ok (.iconst 2, 1) := by decide +kernel
theorem d_Mo_fieldOf_101 : decode c_Mo_fieldOf 101 = .ok (.ireturn, 1) := by decide +kernel
theorem d_Mo_fieldOf_102 : decode c_Mo_fieldOf 102 = .ok (.iconst 3, 1) := by decide +kernel
theorem d_Mo_fieldOf_103 : decode c_Mo_fieldOf 103 = .ok (.ireturn, 1) := by decide +kernel
theorem d_Mo_fieldOf_104 : decode c_Mo_fieldOf 104 = .ok (.iconst 4, 1) := by decide +kernel
theorem d_Mo_fieldOf_105 : decode c_Mo_fieldOf 105 = .ok (.ireturn, 1) := by decide +kernel
theorem d_Mo_fieldOf_106 : decode c_Mo_fieldOf 106 = .ok (.iconst 5, 1) := by decide +kernel
theorem d_Mo_fieldOf_107 : decode c_Mo_fieldOf 107 = .ok (.ireturn, 1) := by decide +kernel
theorem d_Mo_fieldOf_108 : decode c_Mo_fieldOf 108 = .ok (.bipush 6, 2) := by decide +kernel
theorem d_Mo_fieldOf_110 : decode c_Mo_fieldOf 110 = .ok (.ireturn, 1) := by decide +kernel
theorem d_Mo_fieldOf_111 : decode c_Mo_fieldOf 111 = .ok (.bipush 7, 2) := by decide +kernel
theorem d_Mo_fieldOf_113 : decode c_Mo_fieldOf 113 = .ok (.ireturn, 1) := by decide +kernel
theorem d_Mo_fieldOf_114 : decode c_Mo_fieldOf 114 = .ok (.iconst (-1), 1) := by decide +kernel
theorem d_Mo_fieldOf_115 : decode c_Mo_fieldOf 115 = .ok (.ireturn, 1) := by decide +kernel
theorem d_Mo_sum_0 : decode c_Mo_sum 0 = .ok (.iload_n 0, 1) := by decide +kernel
theorem d_Mo_sum_1 : decode c_Mo_sum 1 = .ok (.tableswitch 263 0 30 #[139, 143, 147, 151, 155, 159, 163, 167, 171, 175, 179, 183, 187, 191, 195, 199, 203, 207, 211, 215, 219, 223, 227, 231, 235, 239, 243, 247, 251, 255, 259], 139) := by decide +kernel
theorem d_Mo_sum_140 : decode c_Mo_sum 140 = .ok (.ldc2_w 143, 3) := by decide +kernel
theorem d_Mo_sum_143 : decode c_Mo_sum 143 = .ok (.lreturn, 1) := by decide +kernel
theorem d_Mo_sum_144 : decode c_Mo_sum 144 = .ok (.ldc2_w 145, 3) := by decide +kernel
theorem d_Mo_sum_147 : decode c_Mo_sum 147 = .ok (.lreturn, 1) := by decide +kernel
theorem d_Mo_sum_148 : decode c_Mo_sum 148 = .ok (.ldc2_w 147, 3) := by decide +kernel
theorem d_Mo_sum_151 : decode c_Mo_sum 151 = .ok (.lreturn, 1) := by decide +kernel
theorem d_Mo_sum_152 : decode c_Mo_sum 152 = .ok (.ldc2_w 149, 3) := by decide +kernel
theorem d_Mo_sum_155 : decode c_Mo_sum 155 = .ok (.lreturn, 1) := by decide +kernel
theorem d_Mo_sum_156 : decode c_Mo_sum 156 = .ok (.ldc2_w 151, 3) := by decide +kernel
theorem d_Mo_sum_159 : decode c_Mo_sum 159 = .ok (.lreturn, 1) := by decide +kernel
theorem d_Mo_sum_160 : decode c_Mo_sum 160 = .ok (.ldc2_w 153, 3) := by decide +kernel
theorem d_Mo_sum_163 : decode c_Mo_sum 163 = .ok (.lreturn, 1) := by decide +kernel
theorem d_Mo_sum_164 : decode c_Mo_sum 164 = .ok (.ldc2_w 155, 3) := by decide +kernel
theorem d_Mo_sum_167 : decode c_Mo_sum 167 = .ok (.lreturn, 1) := by decide +kernel
theorem d_Mo_sum_168 : decode c_Mo_sum 168 = .ok (.ldc2_w 157, 3) := by decide +kernel
theorem d_Mo_sum_171 : decode c_Mo_sum 171 = .ok (.lreturn, 1) := by decide +kernel
theorem d_Mo_sum_172 : decode c_Mo_sum 172 = .ok (.ldc2_w 159, 3) := by decide +kernel
theorem d_Mo_sum_175 : decode c_Mo_sum 175 = .ok (.lreturn, 1) := by decide +kernel
theorem d_Mo_sum_176 : decode c_Mo_sum 176 = .ok (.ldc2_w 161, 3) := by decide +kernel
theorem d_Mo_sum_179 : decode c_Mo_sum 179 = .ok (.lreturn, 1) := by decide +kernel
theorem d_Mo_sum_180 : decode c_Mo_sum 180 = .ok (.ldc2_w 163, 3) := by decide +kernel
theorem d_Mo_sum_183 : decode c_Mo_sum 183 = .ok (.lreturn, 1) := by decide +kernel
theorem d_Mo_sum_184 : decode c_Mo_sum 184 = .ok (.ldc2_w 165, 3) := by decide +kernel
theorem d_Mo_sum_187 : decode c_Mo_sum 187 = .ok (.lreturn, 1) := by decide +kernel
theorem d_Mo_sum_188 : decode c_Mo_sum 188 = .ok (.ldc2_w 167, 3) := by decide +kernel
theorem d_Mo_sum_191 : decode c_Mo_sum 191 = .ok (.lreturn, 1) := by decide +kernel
theorem d_Mo_sum_192 : decode c_Mo_sum 192 = .ok (.ldc2_w 169, 3) := by decide +kernel
theorem d_Mo_sum_195 : decode c_Mo_sum 195 = .ok (.lreturn, 1) := by decide +kernel
theorem d_Mo_sum_196 : decode c_Mo_sum 196 = .ok (.ldc2_w 171, 3) := by decide +kernel
theorem d_Mo_sum_199 : decode c_Mo_sum 199 = .ok (.lreturn, 1) := by decide +kernel
theorem d_Mo_sum_200 : decode c_Mo_sum 200 = .ok (.ldc2_w 173, 3) := by decide +kernel
theorem d_Mo_sum_203 : decode c_Mo_sum 203 = .ok (.lreturn, 1) := by decide +kernel
theorem d_Mo_sum_204 : decode c_Mo_sum 204 = .ok (.ldc2_w 175, 3) := by decide +kernel
theorem d_Mo_sum_207 : decode c_Mo_sum 207 = .ok (.lreturn, 1) := by decide +kernel
theorem d_Mo_sum_208 : decode c_Mo_sum 208 = .ok (.ldc2_w 177, 3) := by decide +kernel
theorem d_Mo_sum_211 : decode c_Mo_sum 211 = .ok (.lreturn, 1) := by decide +kernel
theorem d_Mo_sum_212 : decode c_Mo_sum 212 = .ok (.ldc2_w 179, 3) := by decide +kernel
theorem d_Mo_sum_215 : decode c_Mo_sum 215 = .ok (.lreturn, 1) := by decide +kernel
theorem d_Mo_sum_216 : decode c_Mo_sum 216 = .ok (.ldc2_w 181, 3) := by decide +kernel
theorem d_Mo_sum_219 : decode c_Mo_sum 219 = .ok (.lreturn, 1) := by decide +kernel
theorem d_Mo_sum_220 : decode c_Mo_sum 220 = .ok (.ldc2_w 183, 3) := by decide +kernel
theorem d_Mo_sum_223 : decode c_Mo_sum 223 = .ok (.lreturn, 1) := by decide +kernel
theorem d_Mo_sum_224 : decode c_Mo_sum 224 = .ok (.ldc2_w 185, 3) := by decide +kernel
theorem d_Mo_sum_227 : decode c_Mo_sum 227 = .ok (.lreturn, 1) := by decide +kernel
theorem d_Mo_sum_228 : decode c_Mo_sum 228 = .ok (.ldc2_w 187, 3) := by decide +kernel
theorem d_Mo_sum_231 : decode c_Mo_sum 231 = .ok (.lreturn, 1) := by decide +kernel
theorem d_Mo_sum_232 : decode c_Mo_sum 232 = .ok (.ldc2_w 189, 3) := by decide +kernel
theorem d_Mo_sum_235 : decode c_Mo_sum 235 = .ok (.lreturn, 1) := by decide +kernel
theorem d_Mo_sum_236 : decode c_Mo_sum 236 = .ok (.ldc2_w 191, 3) := by decide +kernel
theorem d_Mo_sum_239 : decode c_Mo_sum 239 = .ok (.lreturn, 1) := by decide +kernel
theorem d_Mo_sum_240 : decode c_Mo_sum 240 = .ok (.ldc2_w 193, 3) := by decide +kernel
theorem d_Mo_sum_243 : decode c_Mo_sum 243 = .ok (.lreturn, 1) := by decide +kernel
theorem d_Mo_sum_244 : decode c_Mo_sum 244 = .ok (.ldc2_w 195, 3) := by decide +kernel
theorem d_Mo_sum_247 : decode c_Mo_sum 247 = .ok (.lreturn, 1) := by decide +kernel
theorem d_Mo_sum_248 : decode c_Mo_sum 248 = .ok (.ldc2_w 197, 3) := by decide +kernel
theorem d_Mo_sum_251 : decode c_Mo_sum 251 = .ok (.lreturn, 1) := by decide +kernel
theorem d_Mo_sum_252 : decode c_Mo_sum 252 = .ok (.ldc2_w 199, 3) := by decide +kernel
theorem d_Mo_sum_255 : decode c_Mo_sum 255 = .ok (.lreturn, 1) := by decide +kernel
theorem d_Mo_sum_256 : decode c_Mo_sum 256 = .ok (.ldc2_w 201, 3) := by decide +kernel
theorem d_Mo_sum_259 : decode c_Mo_sum 259 = .ok (.lreturn, 1) := by decide +kernel
theorem d_Mo_sum_260 : decode c_Mo_sum 260 = .ok (.ldc2_w 203, 3) := by decide +kernel
theorem d_Mo_sum_263 : decode c_Mo_sum 263 = .ok (.lreturn, 1) := by decide +kernel
theorem d_Mo_sum_264 : decode c_Mo_sum 264 = .ok (.ldc2_w 205, 3) := by decide +kernel
theorem d_Mo_sum_267 : decode c_Mo_sum 267 = .ok (.lreturn, 1) := by decide +kernel
theorem d_Mo_illAt_0 : decode c_Mo_illAt 0 = .ok (.aload_n 0, 1) := by decide +kernel
theorem d_Mo_illAt_1 : decode c_Mo_illAt 1 = .ok (.iconst 0, 1) := by decide +kernel
theorem d_Mo_illAt_2 : decode c_Mo_illAt 2 = .ok (.putfield 42, 3) := by decide +kernel
theorem d_Mo_illAt_5 : decode c_Mo_illAt 5 = .ok (.aload_n 0, 1) := by decide +kernel
theorem d_Mo_illAt_6 : decode c_Mo_illAt 6 = .ok (.getfield 27, 3) := by decide +kernel
theorem d_Mo_illAt_9 : decode c_Mo_illAt 9 = .ok (.ireturn, 1) := by decide +kernel
theorem d_Mo_word_0 : decode c_Mo_word 0 = .ok (.aload_n 0, 1) := by decide +kernel
theorem d_Mo_word_1 : decode c_Mo_word 1 = .ok (.iconst 0, 1) := by decide +kernel
theorem d_Mo_word_2 : decode c_Mo_word 2 = .ok (.putfield 42, 3) := by decide +kernel
theorem d_Mo_word_5 : decode c_Mo_word 5 = .ok (.iload_n 1, 1) := by decide +kernel
theorem d_Mo_word_6 : decode c_Mo_word 6 = .ok (.ifCond .lt 18, 3) := by decide +kernel
theorem d_Mo_word_9 : decode c_Mo_word 9 = .ok (.iload_n 1, 1) := by decide +kernel
theorem d_Mo_word_10 : decode c_Mo_word 10 = .ok (.bipush 64, 2) := by decide +kernel
theorem d_Mo_word_12 : decode c_Mo_word 12 = .ok (.if_icmp .ge 12, 3) := by decide +kernel
theorem d_Mo_word_15 : decode c_Mo_word 15 = .ok (.aload_n 0, 1) := by decide +kernel
theorem d_Mo_word_16 : decode c_Mo_word 16 = .ok (.getfield 16, 3) := by decide +kernel
theorem d_Mo_word_19 : decode c_Mo_word 19 = .ok (.iload_n 1, 1) := by decide +kernel
theorem d_Mo_word_20 : decode c_Mo_word 20 = .ok (.iaload, 1) := by decide +kernel
theorem d_Mo_word_21 : decode c_Mo_word 21 = .ok (.goto 4, 3) := by decide +kernel
theorem d_Mo_word_24 : decode c_Mo_word 24 = .ok (.iconst (-1), 1) := by decide +kernel
theorem d_Mo_word_25 : decode c_Mo_word 25 = .ok (.ireturn, 1) := by decide +kernel
theorem d_Mo_poke_0 : decode c_Mo_poke 0 = .ok (.aload_n 0, 1) := by decide +kernel
theorem d_Mo_poke_1 : decode c_Mo_poke 1 = .ok (.iconst 0, 1) := by decide +kernel
theorem d_Mo_poke_2 : decode c_Mo_poke 2 = .ok (.putfield 42, 3) := by decide +kernel
theorem d_Mo_poke_5 : decode c_Mo_poke 5 = .ok (.iload_n 1, 1) := by decide +kernel
theorem d_Mo_poke_6 : decode c_Mo_poke 6 = .ok (.ifCond .lt 20, 3) := by decide +kernel
theorem d_Mo_poke_9 : decode c_Mo_poke 9 = .ok (.iload_n 1, 1) := by decide +kernel
theorem d_Mo_poke_10 : decode c_Mo_poke 10 = .ok (.bipush 63, 2) := by decide +kernel
theorem d_Mo_poke_12 : decode c_Mo_poke 12 = .ok (.if_icmp .gt 14, 3) := by decide +kernel
theorem d_Mo_poke_15 : decode c_Mo_poke 15 = .ok (.iload_n 2, 1) := by decide +kernel
theorem d_Mo_poke_16 : decode c_Mo_poke 16 = .ok (.ifCond .lt 10, 3) := by decide +kernel
theorem d_Mo_poke_19 : decode c_Mo_poke 19 = .ok (.iload_n 2, 1) := by decide +kernel
theorem d_Mo_poke_20 : decode c_Mo_poke 20 = .ok (.sipush 1023, 3) := by decide +kernel
theorem d_Mo_poke_23 : decode c_Mo_poke 23 = .ok (.if_icmp .le 5, 3) := by decide +kernel
theorem d_Mo_poke_26 : decode c_Mo_poke 26 = .ok (.iconst 0, 1) := by decide +kernel
theorem d_Mo_poke_27 : decode c_Mo_poke 27 = .ok (.ireturn, 1) := by decide +kernel
theorem d_Mo_poke_28 : decode c_Mo_poke 28 = .ok (.aload_n 0, 1) := by decide +kernel
theorem d_Mo_poke_29 : decode c_Mo_poke 29 = .ok (.getfield 16, 3) := by decide +kernel
theorem d_Mo_poke_32 : decode c_Mo_poke 32 = .ok (.iload_n 1, 1) := by decide +kernel
theorem d_Mo_poke_33 : decode c_Mo_poke 33 = .ok (.iload_n 2, 1) := by decide +kernel
theorem d_Mo_poke_34 : decode c_Mo_poke 34 = .ok (.iastore, 1) := by decide +kernel
theorem d_Mo_poke_35 : decode c_Mo_poke 35 = .ok (.iconst 1, 1) := by decide +kernel
theorem d_Mo_poke_36 : decode c_Mo_poke 36 = .ok (.ireturn, 1) := by decide +kernel
theorem d_Mo_key_0 : decode c_Mo_key 0 = .ok (.aload_n 0, 1) := by decide +kernel
theorem d_Mo_key_1 : decode c_Mo_key 1 = .ok (.iconst 0, 1) := by decide +kernel
theorem d_Mo_key_2 : decode c_Mo_key 2 = .ok (.putfield 42, 3) := by decide +kernel
theorem d_Mo_key_5 : decode c_Mo_key 5 = .ok (.iload_n 1, 1) := by decide +kernel
theorem d_Mo_key_6 : decode c_Mo_key 6 = .ok (.ifCond .lt 17, 3) := by decide +kernel
theorem d_Mo_key_9 : decode c_Mo_key 9 = .ok (.iload_n 1, 1) := by decide +kernel
theorem d_Mo_key_10 : decode c_Mo_key 10 = .ok (.bipush 15, 2) := by decide +kernel
theorem d_Mo_key_12 : decode c_Mo_key 12 = .ok (.if_icmp .gt 11, 3) := by decide +kernel
theorem d_Mo_key_15 : decode c_Mo_key 15 = .ok (.aload_n 0, 1) := by decide +kernel
theorem d_Mo_key_16 : decode c_Mo_key 16 = .ok (.getfield 93, 3) := by decide +kernel
theorem d_Mo_key_19 : decode c_Mo_key 19 = .ok (.iconst 3, 1) := by decide +kernel
theorem d_Mo_key_20 : decode c_Mo_key 20 = .ok (.if_icmp .ne 5, 3) := by decide +kernel
theorem d_Mo_key_23 : decode c_Mo_key 23 = .ok (.iconst 0, 1) := by decide +kernel
theorem d_Mo_key_24 : decode c_Mo_key 24 = .ok (.ireturn, 1) := by decide +kernel
theorem d_Mo_key_25 : decode c_Mo_key 25 = .ok (.aload_n 0, 1) := by decide +kernel
theorem d_Mo_key_26 : decode c_Mo_key 26 = .ok (.getfield 20, 3) := by decide +kernel
theorem d_Mo_key_29 : decode c_Mo_key 29 = .ok (.aload_n 0, 1) := by decide +kernel
theorem d_Mo_key_30 : decode c_Mo_key 30 = .ok (.getfield 93, 3) := by decide +kernel
theorem d_Mo_key_33 : decode c_Mo_key 33 = .ok (.iload_n 1, 1) := by decide +kernel
theorem d_Mo_key_34 : decode c_Mo_key 34 = .ok (.iastore, 1) := by decide +kernel
theorem d_Mo_key_35 : decode c_Mo_key 35 = .ok (.aload_n 0, 1) := by decide +kernel
theorem d_Mo_key_36 : decode c_Mo_key 36 = .ok (.dup, 1) := by decide +kernel
theorem d_Mo_key_37 : decode c_Mo_key 37 = .ok (.getfield 93, 3) := by decide +kernel
theorem d_Mo_key_40 : decode c_Mo_key 40 = .ok (.iconst 1, 1) := by decide +kernel
theorem d_Mo_key_41 : decode c_Mo_key 41 = .ok (.iadd, 1) := by decide +kernel
theorem d_Mo_key_42 : decode c_Mo_key 42 = .ok (.putfield 93, 3) := by decide +kernel
theorem d_Mo_key_45 : decode c_Mo_key 45 = .ok (.iconst 1, 1) := by decide +kernel
theorem d_Mo_key_46 : decode c_Mo_key 46 = .ok (.ireturn, 1) := by decide +kernel
theorem d_Mo_keys_0 : decode c_Mo_keys 0 = .ok (.aload_n 0, 1) := by decide +kernel
theorem d_Mo_keys_1 : decode c_Mo_keys 1 = .ok (.iconst 0, 1) := by decide +kernel
theorem d_Mo_keys_2 : decode c_Mo_keys 2 = .ok (.putfield 42, 3) := by decide +kernel
theorem d_Mo_keys_5 : decode c_Mo_keys 5 = .ok (.aload_n 0, 1) := by decide +kernel
theorem d_Mo_keys_6 : decode c_Mo_keys 6 = .ok (.getfield 93, 3) := by decide +kernel
theorem d_Mo_keys_9 : decode c_Mo_keys 9 = .ok (.ireturn, 1) := by decide +kernel
theorem d_Mo_value_0 : decode c_Mo_value 0 = .ok (.aload_n 0, 1) := by decide +kernel
theorem d_Mo_value_1 : decode c_Mo_value 1 = .ok (.iconst 0, 1) := by decide +kernel
theorem d_Mo_value_2 : decode c_Mo_value 2 = .ok (.putfield 42, 3) := by decide +kernel
theorem d_Mo_value_5 : decode c_Mo_value 5 = .ok (.iload_n 1, 1) := by decide +kernel
theorem d_Mo_value_6 : decode c_Mo_value 6 = .ok (.ifCond .lt 18, 3) := by decide +kernel
theorem d_Mo_value_9 : decode c_Mo_value 9 = .ok (.iload_n 1, 1) := by decide +kernel
theorem d_Mo_value_10 : decode c_Mo_value 10 = .ok (.bipush 7, 2) := by decide +kernel
theorem d_Mo_value_12 : decode c_Mo_value 12 = .ok (.if_icmp .ge 12, 3) := by decide +kernel
theorem d_Mo_value_15 : decode c_Mo_value 15 = .ok (.aload_n 0, 1) := by decide +kernel
theorem d_Mo_value_16 : decode c_Mo_value 16 = .ok (.getfield 13, 3) := by decide +kernel
theorem d_Mo_value_19 : decode c_Mo_value 19 = .ok (.iload_n 1, 1) := by decide +kernel
theorem d_Mo_value_20 : decode c_Mo_value 20 = .ok (.laload, 1) := by decide +kernel
theorem d_Mo_value_21 : decode c_Mo_value 21 = .ok (.goto 6, 3) := by decide +kernel
theorem d_Mo_value_24 : decode c_Mo_value 24 = .ok (.ldc2_w 246, 3) := by decide +kernel
theorem d_Mo_value_27 : decode c_Mo_value 27 = .ok (.lreturn, 1) := by decide +kernel
theorem d_Mo_set_0 : decode c_Mo_set 0 = .ok (.aload_n 0, 1) := by decide +kernel
theorem d_Mo_set_1 : decode c_Mo_set 1 = .ok (.iconst 0, 1) := by decide +kernel
theorem d_Mo_set_2 : decode c_Mo_set 2 = .ok (.putfield 42, 3) := by decide +kernel
theorem d_Mo_set_5 : decode c_Mo_set 5 = .ok (.iload_n 1, 1) := by decide +kernel
theorem d_Mo_set_6 : decode c_Mo_set 6 = .ok (.ifCond .lt 15, 3) := by decide +kernel
theorem d_Mo_set_9 : decode c_Mo_set 9 = .ok (.iload_n 1, 1) := by decide +kernel
theorem d_Mo_set_10 : decode c_Mo_set 10 = .ok (.bipush 6, 2) := by decide +kernel
theorem d_Mo_set_12 : decode c_Mo_set 12 = .ok (.if_icmp .gt 9, 3) := by decide +kernel
theorem d_Mo_set_15 : decode c_Mo_set 15 = .ok (.lload_n 2, 1) := by decide +kernel
theorem d_Mo_set_16 : decode c_Mo_set 16 = .ok (.lconst 0, 1) := by decide +kernel
theorem d_Mo_set_17 : decode c_Mo_set 17 = .ok (.lcmp, 1) := by decide +kernel
theorem d_Mo_set_18 : decode c_Mo_set 18 = .ok (.ifCond .ge 5, 3) := by decide +kernel
theorem d_Mo_set_21 : decode c_Mo_set 21 = .ok (.iconst 0, 1) := by decide +kernel
theorem d_Mo_set_22 : decode c_Mo_set 22 = .ok (.ireturn, 1) := by decide +kernel
theorem d_Mo_set_23 : decode c_Mo_set 23 = .ok (.aload_n 0, 1) := by decide +kernel
theorem d_Mo_set_24 : decode c_Mo_set 24 = .ok (.getfield 13, 3) := by decide +kernel
theorem d_Mo_set_27 : decode c_Mo_set 27 = .ok (.iload_n 1, 1) := by decide +kernel
theorem d_Mo_set_28 : decode c_Mo_set 28 = .ok (.lload_n 2, 1) := by decide +kernel
theorem d_Mo_set_29 : decode c_Mo_set 29 = .ok (.aload_n 0, 1) := by decide +kernel
theorem d_Mo_set_30 : decode c_Mo_set 30 = .ok (.getfield 7, 3) := by decide +kernel
theorem d_Mo_set_33 : decode c_Mo_set 33 = .ok (.bipush 14, 2) := by decide +kernel
theorem d_Mo_set_35 : decode c_Mo_set 35 = .ok (.laload, 1) := by decide +kernel
theorem d_Mo_set_36 : decode c_Mo_set 36 = .ok (.lrem, 1) := by decide +kernel
theorem d_Mo_set_37 : decode c_Mo_set 37 = .ok (.lastore, 1) := by decide +kernel
theorem d_Mo_set_38 : decode c_Mo_set 38 = .ok (.iconst 1, 1) := by decide +kernel
theorem d_Mo_set_39 : decode c_Mo_set 39 = .ok (.ireturn, 1) := by decide +kernel
theorem d_Mo_state_0 : decode c_Mo_state 0 = .ok (.aload_n 0, 1) := by decide +kernel
theorem d_Mo_state_1 : decode c_Mo_state 1 = .ok (.iconst 0, 1) := by decide +kernel
theorem d_Mo_state_2 : decode c_Mo_state 2 = .ok (.putfield 42, 3) := by decide +kernel
theorem d_Mo_state_5 : decode c_Mo_state 5 = .ok (.iload_n 1, 1) := by decide +kernel
theorem d_Mo_state_6 : decode c_Mo_state 6 = .ok (.ifCond .ne 10, 3) := by decide +kernel
theorem d_Mo_state_9 : decode c_Mo_state 9 = .ok (.aload_n 0, 1) := by decide +kernel
theorem d_Mo_state_10 : decode c_Mo_state 10 = .ok (.getfield 45, 3) := by decide +kernel
theorem d_Mo_state_13 : decode c_Mo_state 13 = .ok (.goto 60, 3) := by decide +kernel
theorem d_Mo_state_16 : decode c_Mo_state 16 = .ok (.iload_n 1, 1) := by decide +kernel
theorem d_Mo_state_17 : decode c_Mo_state 17 = .ok (.iconst 1, 1) := by decide +kernel
theorem d_Mo_state_18 : decode c_Mo_state 18 = .ok (.if_icmp .ne 10, 3) := by decide +kernel
theorem d_Mo_state_21 : decode c_Mo_state 21 = .ok (.aload_n 0, 1) := by decide +kernel
theorem d_Mo_state_22 : decode c_Mo_state 22 = .ok (.getfield 74, 3) := by decide +kernel
theorem d_Mo_state_25 : decode c_Mo_state 25 = .ok (.goto 48, 3) := by decide +kernel
theorem d_Mo_state_28 : decode c_Mo_state 28 = .ok (.iload_n 1, 1) := by decide +kernel
theorem d_Mo_state_29 : decode c_Mo_state 29 = .ok (.iconst 2, 1) := by decide +kernel
theorem d_Mo_state_30 : decode c_Mo_state 30 = .ok (.if_icmp .ne 18, 3) := by decide +kernel
theorem d_Mo_state_33 : decode c_Mo_state 33 = .ok (.aload_n 0, 1) := by decide +kernel
theorem d_Mo_state_34 : decode c_Mo_state 34 = .ok (.getfield 59, 3) := by decide +kernel
theorem d_Mo_state_37 : decode c_Mo_state 37 = .ok (.ifCond .eq 7, 3) := by decide +kernel
theorem d_Mo_state_40 : decode c_Mo_state 40 = .ok (.iconst 1, 1) := by decide +kernel
theorem d_Mo_state_41 : decode c_Mo_state 41 = .ok (.goto 32, 3) := by decide +kernel
theorem d_Mo_state_44 : decode c_Mo_state 44 = .ok (.iconst 0, 1) := by decide +kernel
theorem d_Mo_state_45 : decode c_Mo_state 45 = .ok (.goto 28, 3) := by decide +kernel
theorem d_Mo_state_48 : decode c_Mo_state 48 = .ok (.iload_n 1, 1) := by decide +kernel
theorem d_Mo_state_49 : decode c_Mo_state 49 = .ok (.iconst 3, 1) := by decide +kernel
theorem d_Mo_state_50 : decode c_Mo_state 50 = .ok (.if_icmp .ne 10, 3) := by decide +kernel
theorem d_Mo_state_53 : decode c_Mo_state 53 = .ok (.aload_n 0, 1) := by decide +kernel
theorem d_Mo_state_54 : decode c_Mo_state 54 = .ok (.getfield 84, 3) := by decide +kernel
theorem d_Mo_state_57 : decode c_Mo_state 57 = .ok (.goto 16, 3) := by decide +kernel
theorem d_Mo_state_60 : decode c_Mo_state 60 = .ok (.iload_n 1, 1) := by decide +kernel
theorem d_Mo_state_61 : decode c_Mo_state 61 = .ok (.iconst 4, 1) := by decide +kernel
theorem d_Mo_state_62 : decode c_Mo_state 62 = .ok (.if_icmp .ne 10, 3) := by decide +kernel
theorem d_Mo_state_65 : decode c_Mo_state 65 = .ok (.aload_n 0, 1) := by decide +kernel
theorem d_Mo_state_66 : decode c_Mo_state 66 = .ok (.getfield 81, 3) := by decide +kernel
theorem d_Mo_state_69 : decode c_Mo_state 69 = .ok (.goto 4, 3) := by decide +kernel
theorem d_Mo_state_72 : decode c_Mo_state 72 = .ok (.iconst (-1), 1) := by decide +kernel
theorem d_Mo_state_73 : decode c_Mo_state 73 = .ok (.ireturn, 1) := by decide +kernel
theorem d_Mo_go_0 : decode c_Mo_go 0 = .ok (.aload_n 0, 1) := by decide +kernel
theorem d_Mo_go_1 : decode c_Mo_go 1 = .ok (.iconst 0, 1) := by decide +kernel
theorem d_Mo_go_2 : decode c_Mo_go 2 = .ok (.putfield 42, 3) := by decide +kernel
theorem d_Mo_go_5 : decode c_Mo_go 5 = .ok (.iload_n 1, 1) := by decide +kernel
theorem d_Mo_go_6 : decode c_Mo_go 6 = .ok (.ifCond .lt 9, 3) := by decide +kernel
theorem d_Mo_go_9 : decode c_Mo_go 9 = .ok (.iload_n 1, 1) := by decide +kernel
theorem d_Mo_go_10 : decode c_Mo_go 10 = .ok (.bipush 63, 2) := by decide +kernel
theorem d_Mo_go_12 : decode c_Mo_go 12 = .ok (.if_icmp .le 5, 3) := by decide +kernel
theorem d_Mo_go_15 : decode c_Mo_go 15 = .ok (.iconst 0, 1) := by decide +kernel
theorem d_Mo_go_16 : decode c_Mo_go 16 = .ok (.ireturn, 1) := by decide +kernel
theorem d_Mo_go_17 : decode c_Mo_go 17 = .ok (.aload_n 0, 1) := by decide +kernel
theorem d_Mo_go_18 : decode c_Mo_go 18 = .ok (.iload_n 1, 1) := by decide +kernel
theorem d_Mo_go_19 : decode c_Mo_go 19 = .ok (.putfield 84, 3) := by decide +kernel
theorem d_Mo_go_22 : decode c_Mo_go 22 = .ok (.iconst 1, 1) := by decide +kernel
theorem d_Mo_go_23 : decode c_Mo_go 23 = .ok (.ireturn, 1) := by decide +kernel
theorem d_Mo_display_0 : decode c_Mo_display 0 = .ok (.aload_n 0, 1) := by decide +kernel
theorem d_Mo_display_1 : decode c_Mo_display 1 = .ok (.iconst 0, 1) := by decide +kernel
theorem d_Mo_display_2 : decode c_Mo_display 2 = .ok (.putfield 42, 3) := by decide +kernel
theorem d_Mo_display_5 : decode c_Mo_display 5 = .ok (.iload_n 1, 1) := by decide +kernel
theorem d_Mo_display_6 : decode c_Mo_display 6 = .ok (.ifCond .lt 9, 3) := by decide +kernel
theorem d_Mo_display_9 : decode c_Mo_display 9 = .ok (.iload_n 1, 1) := by decide +kernel
theorem d_Mo_display_10 : decode c_Mo_display 10 = .ok (.bipush 14, 2) := by decide +kernel
theorem d_Mo_display_12 : decode c_Mo_display 12 = .ok (.if_icmp .le 5, 3) := by decide +kernel
theorem d_Mo_display_15 : decode c_Mo_display 15 = .ok (.iconst (-1), 1) := by decide +kernel
theorem d_Mo_display_16 : decode c_Mo_display 16 = .ok (.ireturn, 1) := by decide +kernel
theorem d_Mo_display_17 : decode c_Mo_display 17 = .ok (.iload_n 1, 1) := by decide +kernel
theorem d_Mo_display_18 : decode c_Mo_display 18 = .ok (.bipush 14, 2) := by decide +kernel
theorem d_Mo_display_20 : decode c_Mo_display 20 = .ok (.if_icmp .ne 31, 3) := by decide +kernel
theorem d_Mo_display_23 : decode c_Mo_display 23 = .ok (.bipush 12, 2) := by decide +kernel
theorem d_Mo_display_25 : decode c_Mo_display 25 = .ok (.istore_n 2, 1) := by decide +kernel
theorem d_Mo_display_26 : decode c_Mo_display 26 = .ok (.iload_n 2, 1) := by decide +kernel
theorem d_Mo_display_27 : decode c_Mo_display 27 = .ok (.iconst 2, 1) := by decide +kernel
theorem d_Mo_display_28 : decode c_Mo_display 28 = .ok (.if_icmp .le 21, 3) := by decide +kernel
theorem d_Mo_display_31 : decode c_Mo_display 31 = .ok (.aload_n 0, 1) := by decide +kernel
theorem d_Mo_display_32 : decode c_Mo_display 32 = .ok (.iconst 1, 1) := by decide +kernel
theorem d_Mo_display_33 : decode c_Mo_display 33 = .ok (.iload_n 2, 1) := by decide +kernel
theorem d_Mo_display_34 : decode c_Mo_display 34 = .ok (.invokevirtual 248, 3) := by decide +kernel
theorem d_Mo_display_37 : decode c_Mo_display 37 = .ok (.iconst 2, 1) := by decide +kernel
theorem d_Mo_display_38 : decode c_Mo_display 38 = .ok (.if_icmp .ne 5, 3) := by decide +kernel
theorem d_Mo_display_41 : decode c_Mo_display 41 = .ok (.iload_n 2, 1) := by decide +kernel
theorem d_Mo_display_42 : decode c_Mo_display 42 = .ok (.ireturn, 1) := by decide +kernel
theorem d_Mo_display_43 : decode c_Mo_display 43 = .ok (.iinc 2 (-1), 3) := by decide +kernel
theorem d_Mo_display_46 : decode c_Mo_display 46 = .ok (.goto (-20), 3) := by decide +kernel
theorem d_Mo_display_49 : decode c_Mo_display 49 = .ok (.iconst (-1), 1) := by decide +kernel
theorem d_Mo_display_50 : decode c_Mo_display 50 = .ok (.ireturn, 1) := by decide +kernel
theorem d_Mo_display_51 : decode c_Mo_display 51 = .ok (.bipush 13, 2) := by decide +kernel
theorem d_Mo_display_53 : decode c_Mo_display 53 = .ok (.iload_n 1, 1) := by decide +kernel
theorem d_Mo_display_54 : decode c_Mo_display 54 = .ok (.isub, 1) := by decide +kernel
theorem d_Mo_display_55 : decode c_Mo_display 55 = .ok (.istore_n 2, 1) := by decide +kernel
theorem d_Mo_display_56 : decode c_Mo_display 56 = .ok (.aload_n 0, 1) := by decide +kernel
theorem d_Mo_display_57 : decode c_Mo_display 57 = .ok (.iconst 1, 1) := by decide +kernel
theorem d_Mo_display_58 : decode c_Mo_display 58 = .ok (.iload_n 2, 1) := by decide +kernel
theorem d_Mo_display_59 : decode c_Mo_display 59 = .ok (.invokevirtual 248, 3) := by decide +kernel
theorem d_Mo_display_62 : decode c_Mo_display 62 = .ok (.bipush 9, 2) := by decide +kernel
theorem d_Mo_display_64 : decode c_Mo_display 64 = .ok (.if_icmp .ne 6, 3) := by decide +kernel
theorem d_Mo_display_67 : decode c_Mo_display 67 = .ok (.bipush 32, 2) := by decide +kernel
theorem d_Mo_display_69 : decode c_Mo_display 69 = .ok (.ireturn, 1) := by decide +kernel
theorem d_Mo_display_70 : decode c_Mo_display 70 = .ok (.aload_n 0, 1) := by decide +kernel
theorem d_Mo_display_71 : decode c_Mo_display 71 = .ok (.iconst 0, 1) := by decide +kernel
theorem d_Mo_display_72 : decode c_Mo_display 72 = .ok (.iload_n 2, 1) := by decide +kernel
theorem d_Mo_display_73 : decode c_Mo_display 73 = .ok (.invokevirtual 248, 3) := by decide +kernel
theorem d_Mo_display_76 : decode c_Mo_display 76 = .ok (.istore_n 3, 1) := by decide +kernel
theorem d_Mo_display_77 : decode c_Mo_display 77 = .ok (.iload_n 2, 1) := by decide +kernel
theorem d_Mo_display_78 : decode c_Mo_display 78 = .ok (.bipush 13, 2) := by decide +kernel
theorem d_Mo_display_80 : decode c_Mo_display 80 = .ok (.if_icmp .eq 8, 3) := by decide +kernel
theorem d_Mo_display_83 : decode c_Mo_display 83 = .ok (.iload_n 2, 1) := by decide +kernel
theorem d_Mo_display_84 : decode c_Mo_display 84 = .ok (.iconst 2, 1) := by decide +kernel
theorem d_Mo_display_85 : decode c_Mo_display 85 = .ok (.if_icmp .ne 17, 3) := by decide +kernel
theorem d_Mo_display_88 : decode c_Mo_display 88 = .ok (.iload_n 3, 1) := by decide +kernel
theorem d_Mo_display_89 : decode c_Mo_display 89 = .ok (.bipush 9, 2) := by decide +kernel
theorem d_Mo_display_91 : decode c_Mo_display 91 = .ok (.if_icmp .ne 8, 3) := by decide +kernel
theorem d_Mo_display_94 : decode c_Mo_display 94 = .ok (.bipush 45, 2) := by decide +kernel
theorem d_Mo_display_96 : decode c_Mo_display 96 = .ok (.goto 5, 3) := by decide +kernel
theorem d_Mo_display_99 : decode c_Mo_display 99 = .ok (.bipush 32, 2) := by decide +kernel
theorem d_Mo_display_101 : decode c_Mo_display 101 = .ok (.ireturn, 1) := by decide +kernel
theorem d_Mo_display_102 : decode c_Mo_display 102 = .ok (.bipush 48, 2) := by decide +kernel
theorem d_Mo_display_104 : decode c_Mo_display 104 = .ok (.iload_n 3, 1) := by decide +kernel
theorem d_Mo_display_105 : decode c_Mo_display 105 = .ok (.iadd, 1) := by decide +kernel
theorem d_Mo_display_106 : decode c_Mo_display 106 = .ok (.ireturn, 1) := by decide +kernel
theorem d_Mo_digitOf_0 : decode c_Mo_digitOf 0 = .ok (.aload_n 0, 1) := by decide +kernel
theorem d_Mo_digitOf_1 : decode c_Mo_digitOf 1 = .ok (.getfield 13, 3) := by decide +kernel
theorem d_Mo_digitOf_4 : decode c_Mo_digitOf 4 = .ok (.iload_n 1, 1) := by decide +kernel
theorem d_Mo_digitOf_5 : decode c_Mo_digitOf 5 = .ok (.laload, 1) := by decide +kernel
theorem d_Mo_digitOf_6 : decode c_Mo_digitOf 6 = .ok (.aload_n 0, 1) := by decide +kernel
theorem d_Mo_digitOf_7 : decode c_Mo_digitOf 7 = .ok (.getfield 7, 3) := by decide +kernel
theorem d_Mo_digitOf_10 : decode c_Mo_digitOf 10 = .ok (.iload_n 2, 1) := by decide +kernel
theorem d_Mo_digitOf_11 : decode c_Mo_digitOf 11 = .ok (.laload, 1) := by decide +kernel
theorem d_Mo_digitOf_12 : decode c_Mo_digitOf 12 = .ok (.ldiv, 1) := by decide +kernel
theorem d_Mo_digitOf_13 : decode c_Mo_digitOf 13 = .ok (.ldc2_w 40, 3) := by decide +kernel
theorem d_Mo_digitOf_16 : decode c_Mo_digitOf 16 = .ok (.lrem, 1) := by decide +kernel
theorem d_Mo_digitOf_17 : decode c_Mo_digitOf 17 = .ok (.l2i, 1) := by decide +kernel
theorem d_Mo_digitOf_18 : decode c_Mo_digitOf 18 = .ok (.ireturn, 1) := by decide +kernel
end
section
theorem d_Pc_checkIndex_0 : decode c_Pc_checkIndex 0 = .ok (.iload_n 0, 1) := by decide +kernel
theorem d_Pc_checkIndex_1 : decode c_Pc_checkIndex 1 = .ok (.ifCond .lt 8, 3) := by decide +kernel
theorem d_Pc_checkIndex_4 : decode c_Pc_checkIndex 4 = .ok (.iload_n 0, 1) := by decide +kernel
theorem d_Pc_checkIndex_5 : decode c_Pc_checkIndex 5 = .ok (.iload_n 1, 1) := by decide +kernel
theorem d_Pc_checkIndex_6 : decode c_Pc_checkIndex 6 = .ok (.if_icmp .lt 10, 3) := by decide +kernel
theorem d_Pc_checkIndex_9 : decode c_Pc_checkIndex 9 = .ok (.aload_n 2, 1) := by decide +kernel
theorem d_Pc_checkIndex_10 : decode c_Pc_checkIndex 10 = .ok (.iload_n 0, 1) := by decide +kernel
theorem d_Pc_checkIndex_11 : decode c_Pc_checkIndex 11 = .ok (.iload_n 1, 1) := by decide +kernel
theorem d_Pc_checkIndex_12 : decode c_Pc_checkIndex 12 = .ok (.invokestatic 95, 3) := by decide +kernel
theorem d_Pc_checkIndex_15 : decode c_Pc_checkIndex 15 = .ok (.athrow, 1) := by decide +kernel
theorem d_Pc_checkIndex_16 : decode c_Pc_checkIndex 16 = .ok (.iload_n 0, 1) := by decide +kernel
theorem d_Pc_checkIndex_17 : decode c_Pc_checkIndex 17 = .ok (.ireturn, 1) := by decide +kernel
theorem d_Pc_checkFromToIndex_0 : decode c_Pc_checkFromToIndex 0 = .ok (.iload_n 0, 1) := by decide +kernel
theorem d_Pc_checkFromToIndex_1 : decode c_Pc_checkFromToIndex 1 = .ok (.ifCond .lt 13, 3) := by decide +kernel
theorem d_Pc_checkFromToIndex_4 : decode c_Pc_checkFromToIndex 4 = .ok (.iload_n 0, 1) := by decide +kernel
theorem d_Pc_checkFromToIndex_5 : decode c_Pc_checkFromToIndex 5 = .ok (.iload_n 1, 1) := by decide +kernel
theorem d_Pc_checkFromToIndex_6 : decode c_Pc_checkFromToIndex 6 = .ok (.if_icmp .gt 8, 3) := by decide +kernel
theorem d_Pc_checkFromToIndex_9 : decode c_Pc_checkFromToIndex 9 = .ok (.iload_n 1, 1) := by decide +kernel
theorem d_Pc_checkFromToIndex_10 : decode c_Pc_checkFromToIndex 10 = .ok (.iload_n 2, 1) := by decide +kernel
theorem d_Pc_checkFromToIndex_11 : decode c_Pc_checkFromToIndex 11 = .ok (.if_icmp .le 11, 3) := by decide +kernel
theorem d_Pc_checkFromToIndex_14 : decode c_Pc_checkFromToIndex 14 = .ok (.aload_n 3, 1) := by decide +kernel
theorem d_Pc_checkFromToIndex_15 : decode c_Pc_checkFromToIndex 15 = .ok (.iload_n 0, 1) := by decide +kernel
theorem d_Pc_checkFromToIndex_16 : decode c_Pc_checkFromToIndex 16 = .ok (.iload_n 1, 1) := by decide +kernel
theorem d_Pc_checkFromToIndex_17 : decode c_Pc_checkFromToIndex 17 = .ok (.iload_n 2, 1) := by decide +kernel
theorem d_Pc_checkFromToIndex_18 : decode c_Pc_checkFromToIndex 18 = .ok (.invokestatic 99, 3) := by decide +kernel
theorem d_Pc_checkFromToIndex_21 : decode c_Pc_checkFromToIndex 21 = .ok (.athrow, 1) := by decide +kernel
theorem d_Pc_checkFromToIndex_22 : decode c_Pc_checkFromToIndex 22 = .ok (.iload_n 0, 1) := by decide +kernel
theorem d_Pc_checkFromToIndex_23 : decode c_Pc_checkFromToIndex 23 = .ok (.ireturn, 1) := by decide +kernel
end
section
theorem d_Pr_init_0 : decode c_Pr_init 0 = .ok (.aload_n 0, 1) := by decide +kernel
theorem d_Pr_init_1 : decode c_Pr_init 1 = .ok (.invokespecial 3, 3) := by decide +kernel
theorem d_Pr_init_4 : decode c_Pr_init 4 = .ok (.aload_n 0, 1) := by decide +kernel
theorem d_Pr_init_5 : decode c_Pr_init 5 = .ok (.bipush 64, 2) := by decide +kernel
theorem d_Pr_init_7 : decode c_Pr_init 7 = .ok (.newarray .int, 2) := by decide +kernel
theorem d_Pr_init_9 : decode c_Pr_init 9 = .ok (.putfield 9, 3) := by decide +kernel
theorem d_Pr_init_12 : decode c_Pr_init 12 = .ok (.aload_n 0, 1) := by decide +kernel
theorem d_Pr_init_13 : decode c_Pr_init 13 = .ok (.new 15, 3) := by decide +kernel
theorem d_Pr_init_16 : decode c_Pr_init 16 = .ok (.dup, 1) := by decide +kernel
theorem d_Pr_init_17 : decode c_Pr_init 17 = .ok (.invokespecial 17, 3) := by decide +kernel
theorem d_Pr_init_20 : decode c_Pr_init 20 = .ok (.putfield 18, 3) := by decide +kernel
theorem d_Pr_init_23 : decode c_Pr_init 23 = .ok (.aload_n 0, 1) := by decide +kernel
theorem d_Pr_init_24 : decode c_Pr_init 24 = .ok (.new 22, 3) := by decide +kernel
theorem d_Pr_init_27 : decode c_Pr_init 27 = .ok (.dup, 1) := by decide +kernel
theorem d_Pr_init_28 : decode c_Pr_init 28 = .ok (.invokespecial 24, 3) := by decide +kernel
theorem d_Pr_init_31 : decode c_Pr_init 31 = .ok (.putfield 25, 3) := by decide +kernel
theorem d_Pr_init_34 : decode c_Pr_init 34 = .ok (.aload_n 0, 1) := by decide +kernel
theorem d_Pr_init_35 : decode c_Pr_init 35 = .ok (.iconst 0, 1) := by decide +kernel
theorem d_Pr_init_36 : decode c_Pr_init 36 = .ok (.putfield 29, 3) := by decide +kernel
theorem d_Pr_init_39 : decode c_Pr_init 39 = .ok (.aload_n 0, 1) := by decide +kernel
theorem d_Pr_init_40 : decode c_Pr_init 40 = .ok (.iconst 0, 1) := by decide +kernel
theorem d_Pr_init_41 : decode c_Pr_init 41 = .ok (.putfield 33, 3) := by decide +kernel
theorem d_Pr_init_44 : decode c_Pr_init 44 = .ok (.aload_n 0, 1) := by decide +kernel
theorem d_Pr_init_45 : decode c_Pr_init 45 = .ok (.iconst 0, 1) := by decide +kernel
theorem d_Pr_init_46 : decode c_Pr_init 46 = .ok (.putfield 36, 3) := by decide +kernel
theorem d_Pr_init_49 : decode c_Pr_init 49 = .ok (.aload_n 0, 1) := by decide +kernel
theorem d_Pr_init_50 : decode c_Pr_init 50 = .ok (.iconst 0, 1) := by decide +kernel
theorem d_Pr_init_51 : decode c_Pr_init 51 = .ok (.putfield 40, 3) := by decide +kernel
theorem d_Pr_init_54 : decode c_Pr_init 54 = .ok (.aload_n 0, 1) := by decide +kernel
theorem d_Pr_init_55 : decode c_Pr_init 55 = .ok (.iconst 0, 1) := by decide +kernel
theorem d_Pr_init_56 : decode c_Pr_init 56 = .ok (.putfield 43, 3) := by decide +kernel
theorem d_Pr_init_59 : decode c_Pr_init 59 = .ok (.aload_n 0, 1) := by decide +kernel
theorem d_Pr_init_60 : decode c_Pr_init 60 = .ok (.iconst 0, 1) := by decide +kernel
theorem d_Pr_init_61 : decode c_Pr_init 61 = .ok (.putfield 46, 3) := by decide +kernel
theorem d_Pr_init_64 : decode c_Pr_init 64 = .ok (.return_, 1) := by decide +kernel
theorem d_Pr_load_0 : decode c_Pr_load 0 = .ok (.iconst 0, 1) := by decide +kernel
theorem d_Pr_load_1 : decode c_Pr_load 1 = .ok (.istore_n 3, 1) := by decide +kernel
theorem d_Pr_load_2 : decode c_Pr_load 2 = .ok (.iload_n 3, 1) := by decide +kernel
theorem d_Pr_load_3 : decode c_Pr_load 3 = .ok (.bipush 64, 2) := by decide +kernel
theorem d_Pr_load_5 : decode c_Pr_load 5 = .ok (.if_icmp .ge 27, 3) := by decide +kernel
theorem d_Pr_load_8 : decode c_Pr_load 8 = .ok (.aload_n 0, 1) := by decide +kernel
theorem d_Pr_load_9 : decode c_Pr_load 9 = .ok (.getfield 9, 3) := by decide +kernel
theorem d_Pr_load_12 : decode c_Pr_load 12 = .ok (.iload_n 3, 1) := by decide +kernel
theorem d_Pr_load_13 : decode c_Pr_load 13 = .ok (.iload_n 3, 1) := by decide +kernel
theorem d_Pr_load_14 : decode c_Pr_load 14 = .ok (.iload_n 2, 1) := by decide +kernel
theorem d_Pr_load_15 : decode c_Pr_load 15 = .ok (.if_icmp .ge 9, 3) := by decide +kernel
theorem d_Pr_load_18 : decode c_Pr_load 18 = .ok (.aload_n 1, 1) := by decide +kernel
theorem d_Pr_load_19 : decode c_Pr_load 19 = .ok (.iload_n 3, 1) := by decide +kernel
theorem d_Pr_load_20 : decode c_Pr_load 20 = .ok (.iaload, 1) := by decide +kernel
theorem d_Pr_load_21 : decode c_Pr_load 21 = .ok (.goto 4, 3) := by decide +kernel
theorem d_Pr_load_24 : decode c_Pr_load 24 = .ok (.iconst 0, 1) := by decide +kernel
theorem d_Pr_load_25 : decode c_Pr_load 25 = .ok (.iastore, 1) := by decide +kernel
theorem d_Pr_load_26 : decode c_Pr_load 26 = .ok (.iinc 3 1, 3) := by decide +kernel
theorem d_Pr_load_29 : decode c_Pr_load 29 = .ok (.goto (-27), 3) := by decide +kernel
theorem d_Pr_load_32 : decode c_Pr_load 32 = .ok (.aload_n 0, 1) := by decide +kernel
theorem d_Pr_load_33 : decode c_Pr_load 33 = .ok (.iconst 0, 1) := by decide +kernel
theorem d_Pr_load_34 : decode c_Pr_load 34 = .ok (.putfield 40, 3) := by decide +kernel
theorem d_Pr_load_37 : decode c_Pr_load 37 = .ok (.return_, 1) := by decide +kernel
theorem d_Pr_doWords_0 : decode c_Pr_doWords 0 = .ok (.aload_n 0, 1) := by decide +kernel
theorem d_Pr_doWords_1 : decode c_Pr_doWords 1 = .ok (.iconst 0, 1) := by decide +kernel
theorem d_Pr_doWords_2 : decode c_Pr_doWords 2 = .ok (.putfield 46, 3) := by decide +kernel
theorem d_Pr_doWords_5 : decode c_Pr_doWords 5 = .ok (.iconst 0, 1) := by decide +kernel
theorem d_Pr_doWords_6 : decode c_Pr_doWords 6 = .ok (.istore_n 2, 1) := by decide +kernel
theorem d_Pr_doWords_7 : decode c_Pr_doWords 7 = .ok (.iload_n 2, 1) := by decide +kernel
theorem d_Pr_doWords_8 : decode c_Pr_doWords 8 = .ok (.iload_n 1, 1) := by decide +kernel
theorem d_Pr_doWords_9 : decode c_Pr_doWords 9 = .ok (.if_icmp .ge 29, 3) := by decide +kernel
theorem d_Pr_doWords_12 : decode c_Pr_doWords 12 = .ok (.aload_n 0, 1) := by decide +kernel
theorem d_Pr_doWords_13 : decode c_Pr_doWords 13 = .ok (.getfield 46, 3) := by decide +kernel
theorem d_Pr_doWords_16 : decode c_Pr_doWords 16 = .ok (.ifCond .ne 22, 3) := by decide +kernel
theorem d_Pr_doWords_19 : decode c_Pr_doWords 19 = .ok (.aload_n 0, 1) := by decide +kernel
theorem d_Pr_doWords_20 : decode c_Pr_doWords 20 = .ok (.aload_n 0, 1) := by decide +kernel
theorem d_Pr_doWords_21 : decode c_Pr_doWords 21 = .ok (.getfield 9, 3) := by decide +kernel
theorem d_Pr_doWords_24 : decode c_Pr_doWords 24 = .ok (.aload_n 0, 1) := by decide +kernel
theorem d_Pr_doWords_25 : decode c_Pr_doWords 25 = .ok (.getfield 40, 3) := by decide +kernel
theorem d_Pr_doWords_28 : decode c_Pr_doWords 28 = .ok (.iaload, 1) := by decide +kernel
theorem d_Pr_doWords_29 : decode c_Pr_doWords 29 = .ok (.invokevirtual 49, 3) := by decide +kernel
theorem d_Pr_doWords_32 : decode c_Pr_doWords 32 = .ok (.iinc 2 1, 3) := by decide +kernel
theorem d_Pr_doWords_35 : decode c_Pr_doWords 35 = .ok (.goto (-28), 3) := by decide +kernel
theorem d_Pr_doWords_38 : decode c_Pr_doWords 38 = .ok (.iload_n 2, 1) := by decide +kernel
theorem d_Pr_doWords_39 : decode c_Pr_doWords 39 = .ok (.ireturn, 1) := by decide +kernel
theorem d_Pr_doWord_0 : decode c_Pr_doWord 0 = .ok (.aload_n 0, 1) := by decide +kernel
theorem d_Pr_doWord_1 : decode c_Pr_doWord 1 = .ok (.getfield 36, 3) := by decide +kernel
theorem d_Pr_doWord_4 : decode c_Pr_doWord 4 = .ok (.istore_n 2, 1) := by decide +kernel
theorem d_Pr_doWord_5 : decode c_Pr_doWord 5 = .ok (.aload_n 0, 1) := by decide +kernel
theorem d_Pr_doWord_6 : decode c_Pr_doWord 6 = .ok (.iconst 0, 1) := by decide +kernel
theorem d_Pr_doWord_7 : decode c_Pr_doWord 7 = .ok (.putfield 36, 3) := by decide +kernel
theorem d_Pr_doWord_10 : decode c_Pr_doWord 10 = .ok (.aload_n 0, 1) := by decide +kernel
theorem d_Pr_doWord_11 : decode c_Pr_doWord 11 = .ok (.aload_n 0, 1) := by decide +kernel
theorem d_Pr_doWord_12 : decode c_Pr_doWord 12 = .ok (.getfield 40, 3) := by decide +kernel
theorem d_Pr_doWord_15 : decode c_Pr_doWord 15 = .ok (.iconst 1, 1) := by decide +kernel
theorem d_Pr_doWord_16 : decode c_Pr_doWord 16 = .ok (.iadd, 1) := by decide +kernel
theorem d_Pr_doWord_17 : decode c_Pr_doWord 17 = .ok (.bipush 64, 2) := by decide +kernel
theorem d_Pr_doWord_19 : decode c_Pr_doWord 19 = .ok (.irem, 1) := by decide +kernel
theorem d_Pr_doWord_20 : decode c_Pr_doWord 20 = .ok (.putfield 40, 3) := by decide +kernel
theorem d_Pr_doWord_23 : decode c_Pr_doWord 23 = .ok (.iload_n 1, 1) := by decide +kernel
theorem d_Pr_doWord_24 : decode c_Pr_doWord 24 = .ok (.iconst 4, 1) := by decide +kernel
theorem d_Pr_doWord_25 : decode c_Pr_doWord 25 = .ok (.idiv, 1) := by decide +kernel
theorem d_Pr_doWord_26 : decode c_Pr_doWord 26 = .ok (.bipush 64, 2) := by decide +kernel
theorem d_Pr_doWord_28 : decode c_Pr_doWord 28 = .ok (.irem, 1) := by decide +kernel
theorem d_Pr_doWord_29 : decode c_Pr_doWord 29 = .ok (.istore_n 3, 1) := by decide +kernel
theorem d_Pr_doWord_30 : decode c_Pr_doWord 30 = .ok (.iload_n 1, 1) := by decide +kernel
theorem d_Pr_doWord_31 : decode c_Pr_doWord 31 = .ok (.iconst 4, 1) := by decide +kernel
theorem d_Pr_doWord_32 : decode c_Pr_doWord 32 = .ok (.irem, 1) := by decide +kernel
theorem d_Pr_doWord_33 : decode c_Pr_doWord 33 = .ok (.tableswitch 112 0 2 #[27, 44, 60], 27) := by decide +kernel
theorem d_Pr_doWord_60 : decode c_Pr_doWord 60 = .ok (.aload_n 0, 1) := by decide +kernel
theorem d_Pr_doWord_61 : decode c_Pr_doWord 61 = .ok (.iload_n 1, 1) := by decide +kernel
theorem d_Pr_doWord_62 : decode c_Pr_doWord 62 = .ok (.iconst 4, 1) := by decide +kernel
theorem d_Pr_doWord_63 : decode c_Pr_doWord 63 = .ok (.idiv, 1) := by decide +kernel
theorem d_Pr_doWord_64 : decode c_Pr_doWord 64 = .ok (.bipush 16, 2) := by decide +kernel
theorem d_Pr_doWord_66 : decode c_Pr_doWord 66 = .ok (.irem, 1) := by decide +kernel
theorem d_Pr_doWord_67 : decode c_Pr_doWord 67 = .ok (.iload_n 1, 1) := by decide +kernel
theorem d_Pr_doWord_68 : decode c_Pr_doWord 68 = .ok (.bipush 64, 2) := by decide +kernel
theorem d_Pr_doWord_70 : decode c_Pr_doWord 70 = .ok (.idiv, 1) := by decide +kernel
theorem d_Pr_doWord_71 : decode c_Pr_doWord 71 = .ok (.invokevirtual 53, 3) := by decide +kernel
theorem d_Pr_doWord_74 : decode c_Pr_doWord 74 = .ok (.goto 80, 3) := by decide +kernel
theorem d_Pr_doWord_77 : decode c_Pr_doWord 77 = .ok (.aload_n 0, 1) := by decide +kernel
theorem d_Pr_doWord_78 : decode c_Pr_doWord 78 = .ok (.aload_n 0, 1) := by decide +kernel
theorem d_Pr_doWord_79 : decode c_Pr_doWord 79 = .ok (.getfield 40, 3) := by decide +kernel
theorem d_Pr_doWord_82 : decode c_Pr_doWord 82 = .ok (.putfield 43, 3) := by decide +kernel
theorem d_Pr_doWord_85 : decode c_Pr_doWord 85 = .ok (.aload_n 0, 1) := by decide +kernel
theorem d_Pr_doWord_86 : decode c_Pr_doWord 86 = .ok (.iload_n 3, 1) := by decide +kernel
theorem d_Pr_doWord_87 : decode c_Pr_doWord 87 = .ok (.putfield 40, 3) := by decide +kernel
theorem d_Pr_doWord_90 : decode c_Pr_doWord 90 = .ok (.goto 64, 3) := by decide +kernel
theorem d_Pr_doWord_93 : decode c_Pr_doWord 93 = .ok (.aload_n 0, 1) := by decide +kernel
theorem d_Pr_doWord_94 : decode c_Pr_doWord 94 = .ok (.getfield 18, 3) := by decide +kernel
theorem d_Pr_doWord_97 : decode c_Pr_doWord 97 = .ok (.iload_n 1, 1) := by decide +kernel
theorem d_Pr_doWord_98 : decode c_Pr_doWord 98 = .ok (.iconst 4, 1) := by decide +kernel
theorem d_Pr_doWord_99 : decode c_Pr_doWord 99 = .ok (.idiv, 1) := by decide +kernel
theorem d_Pr_doWord_100 : decode c_Pr_doWord 100 = .ok (.bipush 8, 2) := by decide +kernel
theorem d_Pr_doWord_102 : decode c_Pr_doWord 102 = .ok (.irem, 1) := by decide +kernel
theorem d_Pr_doWord_103 : decode c_Pr_doWord 103 = .ok (.aload_n 0, 1) := by decide +kernel
theorem d_Pr_doWord_104 : decode c_Pr_doWord 104 = .ok (.getfield 29, 3) := by decide +kernel
theorem d_Pr_doWord_107 : decode c_Pr_doWord 107 = .ok (.invokevirtual 57, 3) := by decide +kernel
theorem d_Pr_doWord_110 : decode c_Pr_doWord 110 = .ok (.aload_n 0, 1) := by decide +kernel
theorem d_Pr_doWord_111 : decode c_Pr_doWord 111 = .ok (.iload_n 1, 1) := by decide +kernel
theorem d_Pr_doWord_112 : decode c_Pr_doWord 112 = .ok (.bipush 32, 2) := by decide +kernel
theorem d_Pr_doWord_114 : decode c_Pr_doWord 114 = .ok (.idiv, 1) := by decide +kernel
theorem d_Pr_doWord_115 : decode c_Pr_doWord 115 = .ok (.aload_n 0, 1) := by decide +kernel
theorem d_Pr_doWord_116 : decode c_Pr_doWord 116 = .ok (.getfield 18, 3) := by decide +kernel
theorem d_Pr_doWord_119 : decode c_Pr_doWord 119 = .ok (.iconst 0, 1) := by decide +kernel
theorem d_Pr_doWord_120 : decode c_Pr_doWord 120 = .ok (.invokevirtual 60, 3) := by decide +kernel
theorem d_Pr_doWord_123 : decode c_Pr_doWord 123 = .ok (.aload_n 0, 1) := by decide +kernel
theorem d_Pr_doWord_124 : decode c_Pr_doWord 124 = .ok (.getfield 18, 3) := by decide +kernel
theorem d_Pr_doWord_127 : decode c_Pr_doWord 127 = .ok (.iconst 1, 1) := by decide +kernel
theorem d_Pr_doWord_128 : decode c_Pr_doWord 128 = .ok (.invokevirtual 60, 3) := by decide +kernel
theorem d_Pr_doWord_131 : decode c_Pr_doWord 131 = .ok (.aload_n 0, 1) := by decide +kernel
theorem d_Pr_doWord_132 : decode c_Pr_doWord 132 = .ok (.getfield 18, 3) := by decide +kernel
theorem d_Pr_doWord_135 : decode c_Pr_doWord 135 = .ok (.iconst 2, 1) := by decide +kernel
theorem d_Pr_doWord_136 : decode c_Pr_doWord 136 = .ok (.invokevirtual 60, 3) := by decide +kernel
theorem d_Pr_doWord_139 : decode c_Pr_doWord 139 = .ok (.invokevirtual 64, 3) := by decide +kernel
theorem d_Pr_doWord_142 : decode c_Pr_doWord 142 = .ok (.goto 12, 3) := by decide +kernel
theorem d_Pr_doWord_145 : decode c_Pr_doWord 145 = .ok (.iload_n 2, 1) := by decide +kernel
theorem d_Pr_doWord_146 : decode c_Pr_doWord 146 = .ok (.ifCond .ne 8, 3) := by decide +kernel
theorem d_Pr_doWord_149 : decode c_Pr_doWord 149 = .ok (.aload_n 0, 1) := by decide +kernel
theorem d_Pr_doWord_150 : decode c_Pr_doWord 150 = .ok (.iload_n 3, 1) := by decide +kernel
theorem d_Pr_doWord_151 : decode c_Pr_doWord 151 = .ok (.putfield 40, 3) := by decide +kernel
theorem d_Pr_doWord_154 : decode c_Pr_doWord 154 = .ok (.return_, 1) := by decide +kernel
theorem d_Pr_doPlain_0 : decode c_Pr_doPlain 0 = .ok (.iload_n 1, 1) := by decide +kernel
theorem d_Pr_doPlain_1 : decode c_Pr_doPlain 1 = .ok (.tableswitch 240 1 15 #[75, 86, 106, 114, 122, 134, 145, 161, 168, 175, 188, 199, 206, 214, 221], 75) := by decide +kernel
theorem d_Pr_doPlain_76 : decode c_Pr_doPlain 76 = .ok (.aload_n 0, 1) := by decide +kernel
theorem d_Pr_doPlain_77 : decode c_Pr_doPlain 77 = .ok (.iload_n 2, 1) := by decide +kernel
theorem d_Pr_doPlain_78 : decode c_Pr_doPlain 78 = .ok (.bipush 14, 2) := by decide +kernel
theorem d_Pr_doPlain_80 : decode c_Pr_doPlain 80 = .ok (.irem, 1) := by decide +kernel
theorem d_Pr_doPlain_81 : decode c_Pr_doPlain 81 = .ok (.putfield 29, 3) := by decide +kernel
theorem d_Pr_doPlain_84 : decode c_Pr_doPlain 84 = .ok (.goto 157, 3) := by decide +kernel
theorem d_Pr_doPlain_87 : decode c_Pr_doPlain 87 = .ok (.aload_n 0, 1) := by decide +kernel
theorem d_Pr_doPlain_88 : decode c_Pr_doPlain 88 = .ok (.aload_n 0, 1) := by decide +kernel
theorem d_Pr_doPlain_89 : decode c_Pr_doPlain 89 = .ok (.getfield 29, 3) := by decide +kernel
theorem d_Pr_doPlain_92 : decode c_Pr_doPlain 92 = .ok (.iload_n 2, 1) := by decide +kernel
theorem d_Pr_doPlain_93 : decode c_Pr_doPlain 93 = .ok (.if_icmp .ne 7, 3) := by decide +kernel
theorem d_Pr_doPlain_96 : decode c_Pr_doPlain 96 = .ok (.iconst 1, 1) := by decide +kernel
theorem d_Pr_doPlain_97 : decode c_Pr_doPlain 97 = .ok (.goto 4, 3) := by decide +kernel
theorem d_Pr_doPlain_100 : decode c_Pr_doPlain 100 = .ok (.iconst 0, 1) := by decide +kernel
theorem d_Pr_doPlain_101 : decode c_Pr_doPlain 101 = .ok (.putfield 36, 3) := by decide +kernel
theorem d_Pr_doPlain_104 : decode c_Pr_doPlain 104 = .ok (.goto 137, 3) := by decide +kernel
theorem d_Pr_doPlain_107 : decode c_Pr_doPlain 107 = .ok (.aload_n 0, 1) := by decide +kernel
theorem d_Pr_doPlain_108 : decode c_Pr_doPlain 108 = .ok (.iload_n 2, 1) := by decide +kernel
theorem d_Pr_doPlain_109 : decode c_Pr_doPlain 109 = .ok (.invokevirtual 68, 3) := by decide +kernel
theorem d_Pr_doPlain_112 : decode c_Pr_doPlain 112 = .ok (.goto 129, 3) := by decide +kernel
theorem d_Pr_doPlain_115 : decode c_Pr_doPlain 115 = .ok (.aload_n 0, 1) := by decide +kernel
theorem d_Pr_doPlain_116 : decode c_Pr_doPlain 116 = .ok (.iload_n 2, 1) := by decide +kernel
theorem d_Pr_doPlain_117 : decode c_Pr_doPlain 117 = .ok (.invokevirtual 71, 3) := by decide +kernel
theorem d_Pr_doPlain_120 : decode c_Pr_doPlain 120 = .ok (.goto 121, 3) := by decide +kernel
theorem d_Pr_doPlain_123 : decode c_Pr_doPlain 123 = .ok (.aload_n 0, 1) := by decide +kernel
theorem d_Pr_doPlain_124 : decode c_Pr_doPlain 124 = .ok (.aload_n 0, 1) := by decide +kernel
theorem d_Pr_doPlain_125 : decode c_Pr_doPlain 125 = .ok (.iload_n 2, 1) := by decide +kernel
theorem d_Pr_doPlain_126 : decode c_Pr_doPlain 126 = .ok (.invokevirtual 74, 3) := by decide +kernel
theorem d_Pr_doPlain_129 : decode c_Pr_doPlain 129 = .ok (.putfield 36, 3) := by decide +kernel
theorem d_Pr_doPlain_132 : decode c_Pr_doPlain 132 = .ok (.goto 109, 3) := by decide +kernel
theorem d_Pr_doPlain_135 : decode c_Pr_doPlain 135 = .ok (.aload_n 0, 1) := by decide +kernel
theorem d_Pr_doPlain_136 : decode c_Pr_doPlain 136 = .ok (.iload_n 2, 1) := by decide +kernel
theorem d_Pr_doPlain_137 : decode c_Pr_doPlain 137 = .ok (.bipush 10, 2) := by decide +kernel
theorem d_Pr_doPlain_139 : decode c_Pr_doPlain 139 = .ok (.irem, 1) := by decide +kernel
theorem d_Pr_doPlain_140 : decode c_Pr_doPlain 140 = .ok (.invokevirtual 78, 3) := by decide +kernel
theorem d_Pr_doPlain_143 : decode c_Pr_doPlain 143 = .ok (.goto 98, 3) := by decide +kernel
theorem d_Pr_doPlain_146 : decode c_Pr_doPlain 146 = .ok (.aload_n 0, 1) := by decide +kernel
theorem d_Pr_doPlain_147 : decode c_Pr_doPlain 147 = .ok (.aload_n 0, 1) := by decide +kernel
theorem d_Pr_doPlain_148 : decode c_Pr_doPlain 148 = .ok (.getfield 29, 3) := by decide +kernel
theorem d_Pr_doPlain_151 : decode c_Pr_doPlain 151 = .ok (.iconst 1, 1) := by decide +kernel
theorem d_Pr_doPlain_152 : decode c_Pr_doPlain 152 = .ok (.iadd, 1) := by decide +kernel
theorem d_Pr_doPlain_153 : decode c_Pr_doPlain 153 = .ok (.bipush 14, 2) := by decide +kernel
theorem d_Pr_doPlain_155 : decode c_Pr_doPlain 155 = .ok (.irem, 1) := by decide +kernel
theorem d_Pr_doPlain_156 : decode c_Pr_doPlain 156 = .ok (.putfield 29, 3) := by decide +kernel
theorem d_Pr_doPlain_159 : decode c_Pr_doPlain 159 = .ok (.goto 82, 3) := by decide +kernel
theorem d_Pr_doPlain_162 : decode c_Pr_doPlain 162 = .ok (.aload_n 0, 1) := by decide +kernel
theorem d_Pr_doPlain_163 : decode c_Pr_doPlain 163 = .ok (.invokevirtual 81, 3) := by decide +kernel
theorem d_Pr_doPlain_166 : decode c_Pr_doPlain 166 = .ok (.goto 75, 3) := by decide +kernel
theorem d_Pr_doPlain_169 : decode c_Pr_doPlain 169 = .ok (.aload_n 0, 1) := by decide +kernel
theorem d_Pr_doPlain_170 : decode c_Pr_doPlain 170 = .ok (.invokevirtual 84, 3) := by decide +kernel
theorem d_Pr_doPlain_173 : decode c_Pr_doPlain 173 = .ok (.goto 68, 3) := by decide +kernel
theorem d_Pr_doPlain_176 : decode c_Pr_doPlain 176 = .ok (.aload_n 0, 1) := by decide +kernel
theorem d_Pr_doPlain_177 : decode c_Pr_doPlain 177 = .ok (.iconst 3, 1) := by decide +kernel
theorem d_Pr_doPlain_178 : decode c_Pr_doPlain 178 = .ok (.iconst 0, 1) := by decide +kernel
theorem d_Pr_doPlain_179 : decode c_Pr_doPlain 179 = .ok (.invokevirtual 87, 3) := by decide +kernel
theorem d_Pr_doPlain_182 : decode c_Pr_doPlain 182 = .ok (.aload_n 0, 1) := by decide +kernel
theorem d_Pr_doPlain_183 : decode c_Pr_doPlain 183 = .ok (.invokevirtual 90, 3) := by decide +kernel
theorem d_Pr_doPlain_186 : decode c_Pr_doPlain 186 = .ok (.goto 55, 3) := by decide +kernel
theorem d_Pr_doPlain_189 : decode c_Pr_doPlain 189 = .ok (.aload_n 0, 1) := by decide +kernel
theorem d_Pr_doPlain_190 : decode c_Pr_doPlain 190 = .ok (.aload_n 0, 1) := by decide +kernel
theorem d_Pr_doPlain_191 : decode c_Pr_doPlain 191 = .ok (.getfield 43, 3) := by decide +kernel
theorem d_Pr_doPlain_194 : decode c_Pr_doPlain 194 = .ok (.putfield 40, 3) := by decide +kernel
theorem d_Pr_doPlain_197 : decode c_Pr_doPlain 197 = .ok (.goto 44, 3) := by decide +kernel
theorem d_Pr_doPlain_200 : decode c_Pr_doPlain 200 = .ok (.aload_n 0, 1) := by decide +kernel
theorem d_Pr_doPlain_201 : decode c_Pr_doPlain 201 = .ok (.invokevirtual 93, 3) := by decide +kernel
theorem d_Pr_doPlain_204 : decode c_Pr_doPlain 204 = .ok (.goto 37, 3) := by decide +kernel
theorem d_Pr_doPlain_207 : decode c_Pr_doPlain 207 = .ok (.aload_n 0, 1) := by decide +kernel
theorem d_Pr_doPlain_208 : decode c_Pr_doPlain 208 = .ok (.iconst 1, 1) := by decide +kernel
theorem d_Pr_doPlain_209 : decode c_Pr_doPlain 209 = .ok (.putfield 46, 3) := by decide +kernel
theorem d_Pr_doPlain_212 : decode c_Pr_doPlain 212 = .ok (.goto 29, 3) := by decide +kernel
theorem d_Pr_doPlain_215 : decode c_Pr_doPlain 215 = .ok (.aload_n 0, 1) := by decide +kernel
theorem d_Pr_doPlain_216 : decode c_Pr_doPlain 216 = .ok (.invokevirtual 96, 3) := by decide +kernel
theorem d_Pr_doPlain_219 : decode c_Pr_doPlain 219 = .ok (.goto 22, 3) := by decide +kernel
theorem d_Pr_doPlain_222 : decode c_Pr_doPlain 222 = .ok (.aload_n 0, 1) := by decide +kernel
theorem d_Pr_doPlain_223 : decode c_Pr_doPlain 223 = .ok (.iconst 2, 1) := by decide +kernel
theorem d_Pr_doPlain_224 : decode c_Pr_doPlain 224 = .ok (.iconst 0, 1) := by decide +kernel
theorem d_Pr_doPlain_225 : decode c_Pr_doPlain 225 = .ok (.invokevirtual 87, 3) := by decide +kernel
theorem d_Pr_doPlain_228 : decode c_Pr_doPlain 228 = .ok (.aload_n 0, 1) := by decide +kernel
theorem d_Pr_doPlain_229 : decode c_Pr_doPlain 229 = .ok (.iconst 3, 1) := by decide +kernel
theorem d_Pr_doPlain_230 : decode c_Pr_doPlain 230 = .ok (.iconst 2, 1) := by decide +kernel
theorem d_Pr_doPlain_231 : decode c_Pr_doPlain 231 = .ok (.invokevirtual 87, 3) := by decide +kernel
theorem d_Pr_doPlain_234 : decode c_Pr_doPlain 234 = .ok (.aload_n 0, 1) := by decide +kernel
theorem d_Pr_doPlain_235 : decode c_Pr_doPlain 235 = .ok (.invokevirtual 90, 3) := by decide +kernel
theorem d_Pr_doPlain_238 : decode c_Pr_doPlain 238 = .ok (.goto 3, 3) := by decide +kernel
theorem d_Pr_doPlain_241 : decode c_Pr_doPlain 241 = .ok (.return_, 1) := by decide +kernel
theorem d_Pr_setStatus_0 : decode c_Pr_setStatus 0 = .ok (.iload_n 1, 1) := by decide +kernel
theorem d_Pr_setStatus_1 : decode c_Pr_setStatus 1 = .ok (.bipush 12, 2) := by decide +kernel
theorem d_Pr_setStatus_3 : decode c_Pr_setStatus 3 = .ok (.if_icmp .ge 15, 3) := by decide +kernel
theorem d_Pr_setStatus_6 : decode c_Pr_setStatus 6 = .ok (.aload_n 0, 1) := by decide +kernel
theorem d_Pr_setStatus_7 : decode c_Pr_setStatus 7 = .ok (.dup, 1) := by decide +kernel
theorem d_Pr_setStatus_8 : decode c_Pr_setStatus 8 = .ok (.getfield 33, 3) := by decide +kernel
theorem d_Pr_setStatus_11 : decode c_Pr_setStatus 11 = .ok (.iconst 1, 1) := by decide +kernel
theorem d_Pr_setStatus_12 : decode c_Pr_setStatus 12 = .ok (.iload_n 1, 1) := by decide +kernel
theorem d_Pr_setStatus_13 : decode c_Pr_setStatus 13 = .ok (.ishl, 1) := by decide +kernel
theorem d_Pr_setStatus_14 : decode c_Pr_setStatus 14 = .ok (.ior, 1) := by decide +kernel
theorem d_Pr_setStatus_15 : decode c_Pr_setStatus 15 = .ok (.putfield 33, 3) := by decide +kernel
theorem d_Pr_setStatus_18 : decode c_Pr_setStatus 18 = .ok (.return_, 1) := by decide +kernel
theorem d_Pr_clearStatus_0 : decode c_Pr_clearStatus 0 = .ok (.iload_n 1, 1) := by decide +kernel
theorem d_Pr_clearStatus_1 : decode c_Pr_clearStatus 1 = .ok (.bipush 12, 2) := by decide +kernel
theorem d_Pr_clearStatus_3 : decode c_Pr_clearStatus 3 = .ok (.if_icmp .ge 17, 3) := by decide +kernel
theorem d_Pr_clearStatus_6 : decode c_Pr_clearStatus 6 = .ok (.aload_n 0, 1) := by decide +kernel
theorem d_Pr_clearStatus_7 : decode c_Pr_clearStatus 7 = .ok (.dup, 1) := by decide +kernel
theorem d_Pr_clearStatus_8 : decode c_Pr_clearStatus 8 = .ok (.getfield 33, 3) := by decide +kernel
theorem d_Pr_clearStatus_11 : decode c_Pr_clearStatus 11 = .ok (.iconst 1, 1) := by decide +kernel
theorem d_Pr_clearStatus_12 : decode c_Pr_clearStatus 12 = .ok (.iload_n 1, 1) := by decide +kernel
theorem d_Pr_clearStatus_13 : decode c_Pr_clearStatus 13 = .ok (.ishl, 1) := by decide +kernel
theorem d_Pr_clearStatus_14 : decode c_Pr_clearStatus 14 = .ok (.iconst (-1), 1) := by decide +kernel
theorem d_Pr_clearStatus_15 : decode c_Pr_clearStatus 15 = .ok (.ixor, 1) := by decide +kernel
theorem d_Pr_clearStatus_16 : decode c_Pr_clearStatus 16 = .ok (.iand, 1) := by decide +kernel
theorem d_Pr_clearStatus_17 : decode c_Pr_clearStatus 17 = .ok (.putfield 33, 3) := by decide +kernel
theorem d_Pr_clearStatus_20 : decode c_Pr_clearStatus 20 = .ok (.return_, 1) := by decide +kernel
theorem d_Pr_hasStatus_0 : decode c_Pr_hasStatus 0 = .ok (.iload_n 1, 1) := by decide +kernel
theorem d_Pr_hasStatus_1 : decode c_Pr_hasStatus 1 = .ok (.bipush 12, 2) := by decide +kernel
theorem d_Pr_hasStatus_3 : decode c_Pr_hasStatus 3 = .ok (.if_icmp .ge 19, 3) := by decide +kernel
theorem d_Pr_hasStatus_6 : decode c_Pr_hasStatus 6 = .ok (.aload_n 0, 1) := by decide +kernel
theorem d_Pr_hasStatus_7 : decode c_Pr_hasStatus 7 = .ok (.getfield 33, 3) := by decide +kernel
theorem d_Pr_hasStatus_10 : decode c_Pr_hasStatus 10 = .ok (.iload_n 1, 1) := by decide +kernel
theorem d_Pr_hasStatus_11 : decode c_Pr_hasStatus 11 = .ok (.ishr, 1) := by decide +kernel
theorem d_Pr_hasStatus_12 : decode c_Pr_hasStatus 12 = .ok (.iconst 1, 1) := by decide +kernel
theorem d_Pr_hasStatus_13 : decode c_Pr_hasStatus 13 = .ok (.iand, 1) := by decide +kernel
theorem d_Pr_hasStatus_14 : decode c_Pr_hasStatus 14 = .ok (.iconst 1, 1) := by decide +kernel
theorem d_Pr_hasStatus_15 : decode c_Pr_hasStatus 15 = .ok (.if_icmp .ne 7, 3) := by decide +kernel
theorem d_Pr_hasStatus_18 : decode c_Pr_hasStatus 18 = .ok (.iconst 1, 1) := by decide +kernel
theorem d_Pr_hasStatus_19 : decode c_Pr_hasStatus 19 = .ok (.goto 4, 3) := by decide +kernel
theorem d_Pr_hasStatus_22 : decode c_Pr_hasStatus 22 = .ok (.iconst 0, 1) := by decide +kernel
theorem d_Pr_hasStatus_23 : decode c_Pr_hasStatus 23 = .ok (.ireturn, 1) := by decide +kernel
theorem d_Pr_putDigit_0 : decode c_Pr_putDigit 0 = .ok (.aload_n 0, 1) := by decide +kernel
theorem d_Pr_putDigit_1 : decode c_Pr_putDigit 1 = .ok (.getfield 18, 3) := by decide +kernel
theorem d_Pr_putDigit_4 : decode c_Pr_putDigit 4 = .ok (.iconst 0, 1) := by decide +kernel
theorem d_Pr_putDigit_5 : decode c_Pr_putDigit 5 = .ok (.aload_n 0, 1) := by decide +kernel
theorem d_Pr_putDigit_6 : decode c_Pr_putDigit 6 = .ok (.getfield 29, 3) := by decide +kernel
theorem d_Pr_putDigit_9 : decode c_Pr_putDigit 9 = .ok (.invokevirtual 57, 3) := by decide +kernel
theorem d_Pr_putDigit_12 : decode c_Pr_putDigit 12 = .ok (.aload_n 0, 1) := by decide +kernel
theorem d_Pr_putDigit_13 : decode c_Pr_putDigit 13 = .ok (.getfield 18, 3) := by decide +kernel
theorem d_Pr_putDigit_16 : decode c_Pr_putDigit 16 = .ok (.iconst 2, 1) := by decide +kernel
theorem d_Pr_putDigit_17 : decode c_Pr_putDigit 17 = .ok (.iload_n 1, 1) := by decide +kernel
theorem d_Pr_putDigit_18 : decode c_Pr_putDigit 18 = .ok (.i2l, 1) := by decide +kernel
theorem d_Pr_putDigit_19 : decode c_Pr_putDigit 19 = .ok (.invokevirtual 99, 3) := by decide +kernel
theorem d_Pr_putDigit_22 : decode c_Pr_putDigit 22 = .ok (.aload_n 0, 1) := by decide +kernel
theorem d_Pr_putDigit_23 : decode c_Pr_putDigit 23 = .ok (.invokevirtual 81, 3) := by decide +kernel
theorem d_Pr_putDigit_26 : decode c_Pr_putDigit 26 = .ok (.return_, 1) := by decide +kernel
theorem d_Pr_lowerPointer_0 : decode c_Pr_lowerPointer 0 = .ok (.aload_n 0, 1) := by decide +kernel
theorem d_Pr_lowerPointer_1 : decode c_Pr_lowerPointer 1 = .ok (.aload_n 0, 1) := by decide +kernel
theorem d_Pr_lowerPointer_2 : decode c_Pr_lowerPointer 2 = .ok (.getfield 29, 3) := by decide +kernel
theorem d_Pr_lowerPointer_5 : decode c_Pr_lowerPointer 5 = .ok (.bipush 14, 2) := by decide +kernel
theorem d_Pr_lowerPointer_7 : decode c_Pr_lowerPointer 7 = .ok (.iadd, 1) := by decide +kernel
theorem d_Pr_lowerPointer_8 : decode c_Pr_lowerPointer 8 = .ok (.iconst 1, 1) := by decide +kernel
theorem d_Pr_lowerPointer_9 : decode c_Pr_lowerPointer 9 = .ok (.isub, 1) := by decide +kernel
theorem d_Pr_lowerPointer_10 : decode c_Pr_lowerPointer 10 = .ok (.bipush 14, 2) := by decide +kernel
theorem d_Pr_lowerPointer_12 : decode c_Pr_lowerPointer 12 = .ok (.irem, 1) := by decide +kernel
theorem d_Pr_lowerPointer_13 : decode c_Pr_lowerPointer 13 = .ok (.putfield 29, 3) := by decide +kernel
theorem d_Pr_lowerPointer_16 : decode c_Pr_lowerPointer 16 = .ok (.return_, 1) := by decide +kernel
theorem d_Pr_push_0 : decode c_Pr_push 0 = .ok (.aload_n 0, 1) := by decide +kernel
theorem d_Pr_push_1 : decode c_Pr_push 1 = .ok (.iconst 4, 1) := by decide +kernel
theorem d_Pr_push_2 : decode c_Pr_push 2 = .ok (.iconst 5, 1) := by decide +kernel
theorem d_Pr_push_3 : decode c_Pr_push 3 = .ok (.invokevirtual 87, 3) := by decide +kernel
theorem d_Pr_push_6 : decode c_Pr_push 6 = .ok (.aload_n 0, 1) := by decide +kernel
theorem d_Pr_push_7 : decode c_Pr_push 7 = .ok (.iconst 3, 1) := by decide +kernel
theorem d_Pr_push_8 : decode c_Pr_push 8 = .ok (.iconst 4, 1) := by decide +kernel
theorem d_Pr_push_9 : decode c_Pr_push 9 = .ok (.invokevirtual 87, 3) := by decide +kernel
theorem d_Pr_push_12 : decode c_Pr_push 12 = .ok (.aload_n 0, 1) := by decide +kernel
theorem d_Pr_push_13 : decode c_Pr_push 13 = .ok (.iconst 2, 1) := by decide +kernel
theorem d_Pr_push_14 : decode c_Pr_push 14 = .ok (.iconst 3, 1) := by decide +kernel
theorem d_Pr_push_15 : decode c_Pr_push 15 = .ok (.invokevirtual 87, 3) := by decide +kernel
theorem d_Pr_push_18 : decode c_Pr_push 18 = .ok (.return_, 1) := by decide +kernel
theorem d_Pr_copy_0 : decode c_Pr_copy 0 = .ok (.aload_n 0, 1) := by decide +kernel
theorem d_Pr_copy_1 : decode c_Pr_copy 1 = .ok (.getfield 18, 3) := by decide +kernel
theorem d_Pr_copy_4 : decode c_Pr_copy 4 = .ok (.getfield 103, 3) := by decide +kernel
theorem d_Pr_copy_7 : decode c_Pr_copy 7 = .ok (.iload_n 2, 1) := by decide +kernel
theorem d_Pr_copy_8 : decode c_Pr_copy 8 = .ok (.aload_n 0, 1) := by decide +kernel
theorem d_Pr_copy_9 : decode c_Pr_copy 9 = .ok (.getfield 18, 3) := by decide +kernel
theorem d_Pr_copy_12 : decode c_Pr_copy 12 = .ok (.getfield 103, 3) := by decide +kernel
theorem d_Pr_copy_15 : decode c_Pr_copy 15 = .ok (.iload_n 1, 1) := by decide +kernel
theorem d_Pr_copy_16 : decode c_Pr_copy 16 = .ok (.laload, 1) := by decide +kernel
theorem d_Pr_copy_17 : decode c_Pr_copy 17 = .ok (.lastore, 1) := by decide +kernel
theorem d_Pr_copy_18 : decode c_Pr_copy 18 = .ok (.return_, 1) := by decide +kernel
theorem d_Pr_lowerStack_0 : decode c_Pr_lowerStack 0 = .ok (.aload_n 0, 1) := by decide +kernel
theorem d_Pr_lowerStack_1 : decode c_Pr_lowerStack 1 = .ok (.iconst 4, 1) := by decide +kernel
theorem d_Pr_lowerStack_2 : decode c_Pr_lowerStack 2 = .ok (.iconst 3, 1) := by decide +kernel
theorem d_Pr_lowerStack_3 : decode c_Pr_lowerStack 3 = .ok (.invokevirtual 87, 3) := by decide +kernel
theorem d_Pr_lowerStack_6 : decode c_Pr_lowerStack 6 = .ok (.aload_n 0, 1) := by decide +kernel
theorem d_Pr_lowerStack_7 : decode c_Pr_lowerStack 7 = .ok (.iconst 5, 1) := by decide +kernel
theorem d_Pr_lowerStack_8 : decode c_Pr_lowerStack 8 = .ok (.iconst 4, 1) := by decide +kernel
theorem d_Pr_lowerStack_9 : decode c_Pr_lowerStack 9 = .ok (.invokevirtual 87, 3) := by decide +kernel
theorem d_Pr_lowerStack_12 : decode c_Pr_lowerStack 12 = .ok (.return_, 1) := by decide +kernel
theorem d_Pr_takeKey_0 : decode c_Pr_takeKey 0 = .ok (.aload_n 0, 1) := by decide +kernel
theorem d_Pr_takeKey_1 : decode c_Pr_takeKey 1 = .ok (.getfield 25, 3) := by decide +kernel
theorem d_Pr_takeKey_4 : decode c_Pr_takeKey 4 = .ok (.invokevirtual 107, 3) := by decide +kernel
theorem d_Pr_takeKey_7 : decode c_Pr_takeKey 7 = .ok (.istore_n 1, 1) := by decide +kernel
theorem d_Pr_takeKey_8 : decode c_Pr_takeKey 8 = .ok (.iload_n 1, 1) := by decide +kernel
theorem d_Pr_takeKey_9 : decode c_Pr_takeKey 9 = .ok (.iconst (-1), 1) := by decide +kernel
theorem d_Pr_takeKey_10 : decode c_Pr_takeKey 10 = .ok (.if_icmp .ne 27, 3) := by decide +kernel
theorem d_Pr_takeKey_13 : decode c_Pr_takeKey 13 = .ok (.aload_n 0, 1) := by decide +kernel
theorem d_Pr_takeKey_14 : decode c_Pr_takeKey 14 = .ok (.aload_n 0, 1) := by decide +kernel
theorem d_Pr_takeKey_15 : decode c_Pr_takeKey 15 = .ok (.getfield 40, 3) := by decide +kernel
theorem d_Pr_takeKey_18 : decode c_Pr_takeKey 18 = .ok (.bipush 64, 2) := by decide +kernel
theorem d_Pr_takeKey_20 : decode c_Pr_takeKey 20 = .ok (.iadd, 1) := by decide +kernel
theorem d_Pr_takeKey_21 : decode c_Pr_takeKey 21 = .ok (.iconst 1, 1) := by decide +kernel
theorem d_Pr_takeKey_22 : decode c_Pr_takeKey 22 = .ok (.isub, 1) := by decide +kernel
theorem d_Pr_takeKey_23 : decode c_Pr_takeKey 23 = .ok (.bipush 64, 2) := by decide +kernel
theorem d_Pr_takeKey_25 : decode c_Pr_takeKey 25 = .ok (.irem, 1) := by decide +kernel
theorem d_Pr_takeKey_26 : decode c_Pr_takeKey 26 = .ok (.putfield 40, 3) := by decide +kernel
theorem d_Pr_takeKey_29 : decode c_Pr_takeKey 29 = .ok (.aload_n 0, 1) := by decide +kernel
theorem d_Pr_takeKey_30 : decode c_Pr_takeKey 30 = .ok (.iconst 1, 1) := by decide +kernel
theorem d_Pr_takeKey_31 : decode c_Pr_takeKey 31 = .ok (.putfield 46, 3) := by decide +kernel
theorem d_Pr_takeKey_34 : decode c_Pr_takeKey 34 = .ok (.goto 14, 3) := by decide +kernel
theorem d_Pr_takeKey_37 : decode c_Pr_takeKey 37 = .ok (.aload_n 0, 1) := by decide +kernel
theorem d_Pr_takeKey_38 : decode c_Pr_takeKey 38 = .ok (.iload_n 1, 1) := by decide +kernel
theorem d_Pr_takeKey_39 : decode c_Pr_takeKey 39 = .ok (.bipush 8, 2) := by decide +kernel
theorem d_Pr_takeKey_41 : decode c_Pr_takeKey 41 = .ok (.imul, 1) := by decide +kernel
theorem d_Pr_takeKey_42 : decode c_Pr_takeKey 42 = .ok (.bipush 64, 2) := by decide +kernel
theorem d_Pr_takeKey_44 : decode c_Pr_takeKey 44 = .ok (.irem, 1) := by decide +kernel
theorem d_Pr_takeKey_45 : decode c_Pr_takeKey 45 = .ok (.putfield 40, 3) := by decide +kernel
theorem d_Pr_takeKey_48 : decode c_Pr_takeKey 48 = .ok (.return_, 1) := by decide +kernel
theorem d_Pr_exchangeMemory_0 : decode c_Pr_exchangeMemory 0 = .ok (.aload_n 0, 1) := by decide +kernel
theorem d_Pr_exchangeMemory_1 : decode c_Pr_exchangeMemory 1 = .ok (.getfield 18, 3) := by decide +kernel
theorem d_Pr_exchangeMemory_4 : decode c_Pr_exchangeMemory 4 = .ok (.getfield 103, 3) := by decide +kernel
theorem d_Pr_exchangeMemory_7 : decode c_Pr_exchangeMemory 7 = .ok (.iconst 2, 1) := by decide +kernel
theorem d_Pr_exchangeMemory_8 : decode c_Pr_exchangeMemory 8 = .ok (.laload, 1) := by decide +kernel
theorem d_Pr_exchangeMemory_9 : decode c_Pr_exchangeMemory 9 = .ok (.lstore_n 1, 1) := by decide +kernel
theorem d_Pr_exchangeMemory_10 : decode c_Pr_exchangeMemory 10 = .ok (.aload_n 0, 1) := by decide +kernel
theorem d_Pr_exchangeMemory_11 : decode c_Pr_exchangeMemory 11 = .ok (.bipush 6, 2) := by decide +kernel
theorem d_Pr_exchangeMemory_13 : decode c_Pr_exchangeMemory 13 = .ok (.iconst 2, 1) := by decide +kernel
theorem d_Pr_exchangeMemory_14 : decode c_Pr_exchangeMemory 14 = .ok (.invokevirtual 87, 3) := by decide +kernel
theorem d_Pr_exchangeMemory_17 : decode c_Pr_exchangeMemory 17 = .ok (.aload_n 0, 1) := by decide +kernel
theorem d_Pr_exchangeMemory_18 : decode c_Pr_exchangeMemory 18 = .ok (.getfield 18, 3) := by decide +kernel
theorem d_Pr_exchangeMemory_21 : decode c_Pr_exchangeMemory 21 = .ok (.getfield 103, 3) := by decide +kernel
theorem d_Pr_exchangeMemory_24 : decode c_Pr_exchangeMemory 24 = .ok (.bipush 6, 2) := by decide +kernel
theorem d_Pr_exchangeMemory_26 : decode c_Pr_exchangeMemory 26 = .ok (.lload_n 1, 1) := by decide +kernel
theorem d_Pr_exchangeMemory_27 : decode c_Pr_exchangeMemory 27 = .ok (.lastore, 1) := by decide +kernel
theorem d_Pr_exchangeMemory_28 : decode c_Pr_exchangeMemory 28 = .ok (.return_, 1) := by decide +kernel
theorem d_Pr_doFieldWork_0 : decode c_Pr_doFieldWork 0 = .ok (.iload_n 1, 1) := by decide +kernel
theorem d_Pr_doFieldWork_1 : decode c_Pr_doFieldWork 1 = .ok (.tableswitch 611 0 30 #[139, 151, 163, 175, 197, 209, 231, 244, 267, 279, 291, 303, 314, 326, 338, 350, 362, 373, 385, 397, 411, 435, 451, 468, 485, 504, 523, 542, 561, 579, 598], 139) := by decide +kernel
theorem d_Pr_doFieldWork_140 : decode c_Pr_doFieldWork 140 = .ok (.aload_n 0, 1) := by decide +kernel
theorem d_Pr_doFieldWork_141 : decode c_Pr_doFieldWork 141 = .ok (.getfield 18, 3) := by decide +kernel
theorem d_Pr_doFieldWork_144 : decode c_Pr_doFieldWork 144 = .ok (.iconst 0, 1) := by decide +kernel
theorem d_Pr_doFieldWork_145 : decode c_Pr_doFieldWork 145 = .ok (.lconst 0, 1) := by decide +kernel
theorem d_Pr_doFieldWork_146 : decode c_Pr_doFieldWork 146 = .ok (.invokevirtual 99, 3) := by decide +kernel
theorem d_Pr_doFieldWork_149 : decode c_Pr_doFieldWork 149 = .ok (.goto 473, 3) := by decide +kernel
theorem d_Pr_doFieldWork_152 : decode c_Pr_doFieldWork 152 = .ok (.aload_n 0, 1) := by decide +kernel
theorem d_Pr_doFieldWork_153 : decode c_Pr_doFieldWork 153 = .ok (.getfield 18, 3) := by decide +kernel
theorem d_Pr_doFieldWork_156 : decode c_Pr_doFieldWork 156 = .ok (.iconst 1, 1) := by decide +kernel
theorem d_Pr_doFieldWork_157 : decode c_Pr_doFieldWork 157 = .ok (.lconst 0, 1) := by decide +kernel
theorem d_Pr_doFieldWork_158 : decode c_Pr_doFieldWork 158 = .ok (.invokevirtual 99, 3) := by decide +kernel
theorem d_Pr_doFieldWork_161 : decode c_Pr_doFieldWork 161 = .ok (.goto 461, 3) := by decide +kernel
theorem d_Pr_doFieldWork_164 : decode c_Pr_doFieldWork 164 = .ok (.aload_n 0, 1) := by decide +kernel
theorem d_Pr_doFieldWork_165 : decode c_Pr_doFieldWork 165 = .ok (.getfield 18, 3) := by decide +kernel
theorem d_Pr_doFieldWork_168 : decode c_Pr_doFieldWork 168 = .ok (.iconst 2, 1) := by decide +kernel
theorem d_Pr_doFieldWork_169 : decode c_Pr_doFieldWork 169 = .ok (.lconst 0, 1) := by decide +kernel
theorem d_Pr_doFieldWork_170 : decode c_Pr_doFieldWork 170 = .ok (.invokevirtual 99, 3) := by decide +kernel
theorem d_Pr_doFieldWork_173 : decode c_Pr_doFieldWork 173 = .ok (.goto 449, 3) := by decide +kernel
theorem d_Pr_doFieldWork_176 : decode c_Pr_doFieldWork 176 = .ok (.aload_n 0, 1) := by decide +kernel
theorem d_Pr_doFieldWork_177 : decode c_Pr_doFieldWork 177 = .ok (.getfield 18, 3) := by decide +kernel
theorem d_Pr_doFieldWork_180 : decode c_Pr_doFieldWork 180 = .ok (.iconst 0, 1) := by decide +kernel
theorem d_Pr_doFieldWork_181 : decode c_Pr_doFieldWork 181 = .ok (.lload 4, 2) := by decide +kernel
theorem d_Pr_doFieldWork_183 : decode c_Pr_doFieldWork 183 = .ok (.invokevirtual 99, 3) := by decide +kernel
theorem d_Pr_doFieldWork_186 : decode c_Pr_doFieldWork 186 = .ok (.aload_n 0, 1) := by decide +kernel
theorem d_Pr_doFieldWork_187 : decode c_Pr_doFieldWork 187 = .ok (.getfield 18, 3) := by decide +kernel
theorem d_Pr_doFieldWork_190 : decode c_Pr_doFieldWork 190 = .ok (.iconst 1, 1) := by decide +kernel
theorem d_Pr_doFieldWork_191 : decode c_Pr_doFieldWork 191 = .ok (.lload_n 2, 1) := by decide +kernel
theorem d_Pr_doFieldWork_192 : decode c_Pr_doFieldWork 192 = .ok (.invokevirtual 99, 3) := by decide +kernel
theorem d_Pr_doFieldWork_195 : decode c_Pr_doFieldWork 195 = .ok (.goto 427, 3) := by decide +kernel
theorem d_Pr_doFieldWork_198 : decode c_Pr_doFieldWork 198 = .ok (.aload_n 0, 1) := by decide +kernel
theorem d_Pr_doFieldWork_199 : decode c_Pr_doFieldWork 199 = .ok (.getfield 18, 3) := by decide +kernel
theorem d_Pr_doFieldWork_202 : decode c_Pr_doFieldWork 202 = .ok (.iconst 1, 1) := by decide +kernel
theorem d_Pr_doFieldWork_203 : decode c_Pr_doFieldWork 203 = .ok (.lload_n 2, 1) := by decide +kernel
theorem d_Pr_doFieldWork_204 : decode c_Pr_doFieldWork 204 = .ok (.invokevirtual 99, 3) := by decide +kernel
theorem d_Pr_doFieldWork_207 : decode c_Pr_doFieldWork 207 = .ok (.goto 415, 3) := by decide +kernel
theorem d_Pr_doFieldWork_210 : decode c_Pr_doFieldWork 210 = .ok (.aload_n 0, 1) := by decide +kernel
theorem d_Pr_doFieldWork_211 : decode c_Pr_doFieldWork 211 = .ok (.getfield 18, 3) := by decide +kernel
theorem d_Pr_doFieldWork_214 : decode c_Pr_doFieldWork 214 = .ok (.iconst 0, 1) := by decide +kernel
theorem d_Pr_doFieldWork_215 : decode c_Pr_doFieldWork 215 = .ok (.lload 6, 2) := by decide +kernel
theorem d_Pr_doFieldWork_217 : decode c_Pr_doFieldWork 217 = .ok (.invokevirtual 99, 3) := by decide +kernel
theorem d_Pr_doFieldWork_220 : decode c_Pr_doFieldWork 220 = .ok (.aload_n 0, 1) := by decide +kernel
theorem d_Pr_doFieldWork_221 : decode c_Pr_doFieldWork 221 = .ok (.getfield 18, 3) := by decide +kernel
theorem d_Pr_doFieldWork_224 : decode c_Pr_doFieldWork 224 = .ok (.iconst 2, 1) := by decide +kernel
theorem d_Pr_doFieldWork_225 : decode c_Pr_doFieldWork 225 = .ok (.lload_n 2, 1) := by decide +kernel
theorem d_Pr_doFieldWork_226 : decode c_Pr_doFieldWork 226 = .ok (.invokevirtual 99, 3) := by decide +kernel
theorem d_Pr_doFieldWork_229 : decode c_Pr_doFieldWork 229 = .ok (.goto 393, 3) := by decide +kernel
theorem d_Pr_doFieldWork_232 : decode c_Pr_doFieldWork 232 = .ok (.aload_n 0, 1) := by decide +kernel
theorem d_Pr_doFieldWork_233 : decode c_Pr_doFieldWork 233 = .ok (.getfield 18, 3) := by decide +kernel
theorem d_Pr_doFieldWork_236 : decode c_Pr_doFieldWork 236 = .ok (.iconst 2, 1) := by decide +kernel
theorem d_Pr_doFieldWork_237 : decode c_Pr_doFieldWork 237 = .ok (.lload 4, 2) := by decide +kernel
theorem d_Pr_doFieldWork_239 : decode c_Pr_doFieldWork 239 = .ok (.invokevirtual 99, 3) := by decide +kernel
theorem d_Pr_doFieldWork_242 : decode c_Pr_doFieldWork 242 = .ok (.goto 380, 3) := by decide +kernel
theorem d_Pr_doFieldWork_245 : decode c_Pr_doFieldWork 245 = .ok (.aload_n 0, 1) := by decide +kernel
theorem d_Pr_doFieldWork_246 : decode c_Pr_doFieldWork 246 = .ok (.getfield 18, 3) := by decide +kernel
theorem d_Pr_doFieldWork_249 : decode c_Pr_doFieldWork 249 = .ok (.iconst 1, 1) := by decide +kernel
theorem d_Pr_doFieldWork_250 : decode c_Pr_doFieldWork 250 = .ok (.lload 6, 2) := by decide +kernel
theorem d_Pr_doFieldWork_252 : decode c_Pr_doFieldWork 252 = .ok (.invokevirtual 99, 3) := by decide +kernel
theorem d_Pr_doFieldWork_255 : decode c_Pr_doFieldWork 255 = .ok (.aload_n 0, 1) := by decide +kernel
end
section
theorem d_Pr_doFieldWork_256 : decode c_Pr_doFieldWork 256 = .ok (.getfield 18, 3) := by decide +kernel
theorem d_Pr_doFieldWork_259 : decode c_Pr_doFieldWork 259 = .ok (.iconst 2, 1) := by decide +kernel
theorem d_Pr_doFieldWork_260 : decode c_Pr_doFieldWork 260 = .ok (.lload 4, 2) := by decide +kernel
theorem d_Pr_doFieldWork_262 : decode c_Pr_doFieldWork 262 = .ok (.invokevirtual 99, 3) := by decide +kernel
theorem d_Pr_doFieldWork_265 : decode c_Pr_doFieldWork 265 = .ok (.goto 357, 3) := by decide +kernel
theorem d_Pr_doFieldWork_268 : decode c_Pr_doFieldWork 268 = .ok (.aload_n 0, 1) := by decide +kernel
theorem d_Pr_doFieldWork_269 : decode c_Pr_doFieldWork 269 = .ok (.iconst 0, 1) := by decide +kernel
theorem d_Pr_doFieldWork_270 : decode c_Pr_doFieldWork 270 = .ok (.lload_n 2, 1) := by decide +kernel
theorem d_Pr_doFieldWork_271 : decode c_Pr_doFieldWork 271 = .ok (.lload 4, 2) := by decide +kernel
theorem d_Pr_doFieldWork_273 : decode c_Pr_doFieldWork 273 = .ok (.ladd, 1) := by decide +kernel
theorem d_Pr_doFieldWork_274 : decode c_Pr_doFieldWork 274 = .ok (.invokevirtual 111, 3) := by decide +kernel
theorem d_Pr_doFieldWork_277 : decode c_Pr_doFieldWork 277 = .ok (.goto 345, 3) := by decide +kernel
theorem d_Pr_doFieldWork_280 : decode c_Pr_doFieldWork 280 = .ok (.aload_n 0, 1) := by decide +kernel
theorem d_Pr_doFieldWork_281 : decode c_Pr_doFieldWork 281 = .ok (.iconst 0, 1) := by decide +kernel
theorem d_Pr_doFieldWork_282 : decode c_Pr_doFieldWork 282 = .ok (.lload_n 2, 1) := by decide +kernel
theorem d_Pr_doFieldWork_283 : decode c_Pr_doFieldWork 283 = .ok (.lload 6, 2) := by decide +kernel
theorem d_Pr_doFieldWork_285 : decode c_Pr_doFieldWork 285 = .ok (.ladd, 1) := by decide +kernel
theorem d_Pr_doFieldWork_286 : decode c_Pr_doFieldWork 286 = .ok (.invokevirtual 111, 3) := by decide +kernel
theorem d_Pr_doFieldWork_289 : decode c_Pr_doFieldWork 289 = .ok (.goto 333, 3) := by decide +kernel
theorem d_Pr_doFieldWork_292 : decode c_Pr_doFieldWork 292 = .ok (.aload_n 0, 1) := by decide +kernel
theorem d_Pr_doFieldWork_293 : decode c_Pr_doFieldWork 293 = .ok (.iconst 2, 1) := by decide +kernel
theorem d_Pr_doFieldWork_294 : decode c_Pr_doFieldWork 294 = .ok (.lload_n 2, 1) := by decide +kernel
theorem d_Pr_doFieldWork_295 : decode c_Pr_doFieldWork 295 = .ok (.lload 6, 2) := by decide +kernel
theorem d_Pr_doFieldWork_297 : decode c_Pr_doFieldWork 297 = .ok (.ladd, 1) := by decide +kernel
theorem d_Pr_doFieldWork_298 : decode c_Pr_doFieldWork 298 = .ok (.invokevirtual 111, 3) := by decide +kernel
theorem d_Pr_doFieldWork_301 : decode c_Pr_doFieldWork 301 = .ok (.goto 321, 3) := by decide +kernel
theorem d_Pr_doFieldWork_304 : decode c_Pr_doFieldWork 304 = .ok (.aload_n 0, 1) := by decide +kernel
theorem d_Pr_doFieldWork_305 : decode c_Pr_doFieldWork 305 = .ok (.iconst 0, 1) := by decide +kernel
theorem d_Pr_doFieldWork_306 : decode c_Pr_doFieldWork 306 = .ok (.lload_n 2, 1) := by decide +kernel
theorem d_Pr_doFieldWork_307 : decode c_Pr_doFieldWork 307 = .ok (.lconst 1, 1) := by decide +kernel
theorem d_Pr_doFieldWork_308 : decode c_Pr_doFieldWork 308 = .ok (.ladd, 1) := by decide +kernel
theorem d_Pr_doFieldWork_309 : decode c_Pr_doFieldWork 309 = .ok (.invokevirtual 111, 3) := by decide +kernel
theorem d_Pr_doFieldWork_312 : decode c_Pr_doFieldWork 312 = .ok (.goto 310, 3) := by decide +kernel
theorem d_Pr_doFieldWork_315 : decode c_Pr_doFieldWork 315 = .ok (.aload_n 0, 1) := by decide +kernel
theorem d_Pr_doFieldWork_316 : decode c_Pr_doFieldWork 316 = .ok (.iconst 2, 1) := by decide +kernel
theorem d_Pr_doFieldWork_317 : decode c_Pr_doFieldWork 317 = .ok (.lload 6, 2) := by decide +kernel
theorem d_Pr_doFieldWork_319 : decode c_Pr_doFieldWork 319 = .ok (.lconst 1, 1) := by decide +kernel
theorem d_Pr_doFieldWork_320 : decode c_Pr_doFieldWork 320 = .ok (.ladd, 1) := by decide +kernel
theorem d_Pr_doFieldWork_321 : decode c_Pr_doFieldWork 321 = .ok (.invokevirtual 111, 3) := by decide +kernel
theorem d_Pr_doFieldWork_324 : decode c_Pr_doFieldWork 324 = .ok (.goto 298, 3) := by decide +kernel
theorem d_Pr_doFieldWork_327 : decode c_Pr_doFieldWork 327 = .ok (.aload_n 0, 1) := by decide +kernel
theorem d_Pr_doFieldWork_328 : decode c_Pr_doFieldWork 328 = .ok (.iconst 0, 1) := by decide +kernel
theorem d_Pr_doFieldWork_329 : decode c_Pr_doFieldWork 329 = .ok (.lload_n 2, 1) := by decide +kernel
theorem d_Pr_doFieldWork_330 : decode c_Pr_doFieldWork 330 = .ok (.lload 4, 2) := by decide +kernel
theorem d_Pr_doFieldWork_332 : decode c_Pr_doFieldWork 332 = .ok (.lsub, 1) := by decide +kernel
theorem d_Pr_doFieldWork_333 : decode c_Pr_doFieldWork 333 = .ok (.invokevirtual 111, 3) := by decide +kernel
theorem d_Pr_doFieldWork_336 : decode c_Pr_doFieldWork 336 = .ok (.goto 286, 3) := by decide +kernel
theorem d_Pr_doFieldWork_339 : decode c_Pr_doFieldWork 339 = .ok (.aload_n 0, 1) := by decide +kernel
theorem d_Pr_doFieldWork_340 : decode c_Pr_doFieldWork 340 = .ok (.iconst 0, 1) := by decide +kernel
theorem d_Pr_doFieldWork_341 : decode c_Pr_doFieldWork 341 = .ok (.lload_n 2, 1) := by decide +kernel
theorem d_Pr_doFieldWork_342 : decode c_Pr_doFieldWork 342 = .ok (.lload 6, 2) := by decide +kernel
theorem d_Pr_doFieldWork_344 : decode c_Pr_doFieldWork 344 = .ok (.lsub, 1) := by decide +kernel
theorem d_Pr_doFieldWork_345 : decode c_Pr_doFieldWork 345 = .ok (.invokevirtual 111, 3) := by decide +kernel
theorem d_Pr_doFieldWork_348 : decode c_Pr_doFieldWork 348 = .ok (.goto 274, 3) := by decide +kernel
theorem d_Pr_doFieldWork_351 : decode c_Pr_doFieldWork 351 = .ok (.aload_n 0, 1) := by decide +kernel
theorem d_Pr_doFieldWork_352 : decode c_Pr_doFieldWork 352 = .ok (.iconst 2, 1) := by decide +kernel
theorem d_Pr_doFieldWork_353 : decode c_Pr_doFieldWork 353 = .ok (.lload_n 2, 1) := by decide +kernel
theorem d_Pr_doFieldWork_354 : decode c_Pr_doFieldWork 354 = .ok (.lload 6, 2) := by decide +kernel
theorem d_Pr_doFieldWork_356 : decode c_Pr_doFieldWork 356 = .ok (.lsub, 1) := by decide +kernel
theorem d_Pr_doFieldWork_357 : decode c_Pr_doFieldWork 357 = .ok (.invokevirtual 111, 3) := by decide +kernel
theorem d_Pr_doFieldWork_360 : decode c_Pr_doFieldWork 360 = .ok (.goto 262, 3) := by decide +kernel
theorem d_Pr_doFieldWork_363 : decode c_Pr_doFieldWork 363 = .ok (.aload_n 0, 1) := by decide +kernel
theorem d_Pr_doFieldWork_364 : decode c_Pr_doFieldWork 364 = .ok (.iconst 0, 1) := by decide +kernel
theorem d_Pr_doFieldWork_365 : decode c_Pr_doFieldWork 365 = .ok (.lload_n 2, 1) := by decide +kernel
theorem d_Pr_doFieldWork_366 : decode c_Pr_doFieldWork 366 = .ok (.lconst 1, 1) := by decide +kernel
theorem d_Pr_doFieldWork_367 : decode c_Pr_doFieldWork 367 = .ok (.lsub, 1) := by decide +kernel
theorem d_Pr_doFieldWork_368 : decode c_Pr_doFieldWork 368 = .ok (.invokevirtual 111, 3) := by decide +kernel
theorem d_Pr_doFieldWork_371 : decode c_Pr_doFieldWork 371 = .ok (.goto 251, 3) := by decide +kernel
theorem d_Pr_doFieldWork_374 : decode c_Pr_doFieldWork 374 = .ok (.aload_n 0, 1) := by decide +kernel
theorem d_Pr_doFieldWork_375 : decode c_Pr_doFieldWork 375 = .ok (.iconst 2, 1) := by decide +kernel
theorem d_Pr_doFieldWork_376 : decode c_Pr_doFieldWork 376 = .ok (.lload 6, 2) := by decide +kernel
theorem d_Pr_doFieldWork_378 : decode c_Pr_doFieldWork 378 = .ok (.lconst 1, 1) := by decide +kernel
theorem d_Pr_doFieldWork_379 : decode c_Pr_doFieldWork 379 = .ok (.lsub, 1) := by decide +kernel
theorem d_Pr_doFieldWork_380 : decode c_Pr_doFieldWork 380 = .ok (.invokevirtual 111, 3) := by decide +kernel
theorem d_Pr_doFieldWork_383 : decode c_Pr_doFieldWork 383 = .ok (.goto 239, 3) := by decide +kernel
theorem d_Pr_doFieldWork_386 : decode c_Pr_doFieldWork 386 = .ok (.aload_n 0, 1) := by decide +kernel
theorem d_Pr_doFieldWork_387 : decode c_Pr_doFieldWork 387 = .ok (.iconst 2, 1) := by decide +kernel
theorem d_Pr_doFieldWork_388 : decode c_Pr_doFieldWork 388 = .ok (.lconst 0, 1) := by decide +kernel
theorem d_Pr_doFieldWork_389 : decode c_Pr_doFieldWork 389 = .ok (.lload 6, 2) := by decide +kernel
theorem d_Pr_doFieldWork_391 : decode c_Pr_doFieldWork 391 = .ok (.lsub, 1) := by decide +kernel
theorem d_Pr_doFieldWork_392 : decode c_Pr_doFieldWork 392 = .ok (.invokevirtual 111, 3) := by decide +kernel
theorem d_Pr_doFieldWork_395 : decode c_Pr_doFieldWork 395 = .ok (.goto 227, 3) := by decide +kernel
theorem d_Pr_doFieldWork_398 : decode c_Pr_doFieldWork 398 = .ok (.aload_n 0, 1) := by decide +kernel
theorem d_Pr_doFieldWork_399 : decode c_Pr_doFieldWork 399 = .ok (.iconst 2, 1) := by decide +kernel
theorem d_Pr_doFieldWork_400 : decode c_Pr_doFieldWork 400 = .ok (.lconst 0, 1) := by decide +kernel
theorem d_Pr_doFieldWork_401 : decode c_Pr_doFieldWork 401 = .ok (.lload 6, 2) := by decide +kernel
theorem d_Pr_doFieldWork_403 : decode c_Pr_doFieldWork 403 = .ok (.lsub, 1) := by decide +kernel
theorem d_Pr_doFieldWork_404 : decode c_Pr_doFieldWork 404 = .ok (.lconst 1, 1) := by decide +kernel
theorem d_Pr_doFieldWork_405 : decode c_Pr_doFieldWork 405 = .ok (.lsub, 1) := by decide +kernel
theorem d_Pr_doFieldWork_406 : decode c_Pr_doFieldWork 406 = .ok (.invokevirtual 111, 3) := by decide +kernel
theorem d_Pr_doFieldWork_409 : decode c_Pr_doFieldWork 409 = .ok (.goto 213, 3) := by decide +kernel
theorem d_Pr_doFieldWork_412 : decode c_Pr_doFieldWork 412 = .ok (.aload_n 0, 1) := by decide +kernel
theorem d_Pr_doFieldWork_413 : decode c_Pr_doFieldWork 413 = .ok (.getfield 18, 3) := by decide +kernel
theorem d_Pr_doFieldWork_416 : decode c_Pr_doFieldWork 416 = .ok (.iconst 0, 1) := by decide +kernel
theorem d_Pr_doFieldWork_417 : decode c_Pr_doFieldWork 417 = .ok (.lload_n 2, 1) := by decide +kernel
theorem d_Pr_doFieldWork_418 : decode c_Pr_doFieldWork 418 = .ok (.ldc2_w 114, 3) := by decide +kernel
theorem d_Pr_doFieldWork_421 : decode c_Pr_doFieldWork 421 = .ok (.lmul, 1) := by decide +kernel
theorem d_Pr_doFieldWork_422 : decode c_Pr_doFieldWork 422 = .ok (.aload_n 0, 1) := by decide +kernel
theorem d_Pr_doFieldWork_423 : decode c_Pr_doFieldWork 423 = .ok (.getfield 18, 3) := by decide +kernel
theorem d_Pr_doFieldWork_426 : decode c_Pr_doFieldWork 426 = .ok (.getfield 116, 3) := by decide +kernel
theorem d_Pr_doFieldWork_429 : decode c_Pr_doFieldWork 429 = .ok (.lrem, 1) := by decide +kernel
theorem d_Pr_doFieldWork_430 : decode c_Pr_doFieldWork 430 = .ok (.invokevirtual 99, 3) := by decide +kernel
theorem d_Pr_doFieldWork_433 : decode c_Pr_doFieldWork 433 = .ok (.goto 189, 3) := by decide +kernel
theorem d_Pr_doFieldWork_436 : decode c_Pr_doFieldWork 436 = .ok (.aload_n 0, 1) := by decide +kernel
theorem d_Pr_doFieldWork_437 : decode c_Pr_doFieldWork 437 = .ok (.getfield 18, 3) := by decide +kernel
theorem d_Pr_doFieldWork_440 : decode c_Pr_doFieldWork 440 = .ok (.iconst 0, 1) := by decide +kernel
theorem d_Pr_doFieldWork_441 : decode c_Pr_doFieldWork 441 = .ok (.lload_n 2, 1) := by decide +kernel
theorem d_Pr_doFieldWork_442 : decode c_Pr_doFieldWork 442 = .ok (.ldc2_w 114, 3) := by decide +kernel
theorem d_Pr_doFieldWork_445 : decode c_Pr_doFieldWork 445 = .ok (.ldiv, 1) := by decide +kernel
theorem d_Pr_doFieldWork_446 : decode c_Pr_doFieldWork 446 = .ok (.invokevirtual 99, 3) := by decide +kernel
theorem d_Pr_doFieldWork_449 : decode c_Pr_doFieldWork 449 = .ok (.goto 173, 3) := by decide +kernel
theorem d_Pr_doFieldWork_452 : decode c_Pr_doFieldWork 452 = .ok (.aload_n 0, 1) := by decide +kernel
theorem d_Pr_doFieldWork_453 : decode c_Pr_doFieldWork 453 = .ok (.getfield 18, 3) := by decide +kernel
theorem d_Pr_doFieldWork_456 : decode c_Pr_doFieldWork 456 = .ok (.iconst 1, 1) := by decide +kernel
theorem d_Pr_doFieldWork_457 : decode c_Pr_doFieldWork 457 = .ok (.lload 4, 2) := by decide +kernel
theorem d_Pr_doFieldWork_459 : decode c_Pr_doFieldWork 459 = .ok (.ldc2_w 114, 3) := by decide +kernel
theorem d_Pr_doFieldWork_462 : decode c_Pr_doFieldWork 462 = .ok (.ldiv, 1) := by decide +kernel
theorem d_Pr_doFieldWork_463 : decode c_Pr_doFieldWork 463 = .ok (.invokevirtual 99, 3) := by decide +kernel
theorem d_Pr_doFieldWork_466 : decode c_Pr_doFieldWork 466 = .ok (.goto 156, 3) := by decide +kernel
theorem d_Pr_doFieldWork_469 : decode c_Pr_doFieldWork 469 = .ok (.aload_n 0, 1) := by decide +kernel
theorem d_Pr_doFieldWork_470 : decode c_Pr_doFieldWork 470 = .ok (.getfield 18, 3) := by decide +kernel
theorem d_Pr_doFieldWork_473 : decode c_Pr_doFieldWork 473 = .ok (.iconst 2, 1) := by decide +kernel
theorem d_Pr_doFieldWork_474 : decode c_Pr_doFieldWork 474 = .ok (.lload 6, 2) := by decide +kernel
theorem d_Pr_doFieldWork_476 : decode c_Pr_doFieldWork 476 = .ok (.ldc2_w 114, 3) := by decide +kernel
theorem d_Pr_doFieldWork_479 : decode c_Pr_doFieldWork 479 = .ok (.ldiv, 1) := by decide +kernel
theorem d_Pr_doFieldWork_480 : decode c_Pr_doFieldWork 480 = .ok (.invokevirtual 99, 3) := by decide +kernel
theorem d_Pr_doFieldWork_483 : decode c_Pr_doFieldWork 483 = .ok (.goto 139, 3) := by decide +kernel
theorem d_Pr_doFieldWork_486 : decode c_Pr_doFieldWork 486 = .ok (.aload_n 0, 1) := by decide +kernel
theorem d_Pr_doFieldWork_487 : decode c_Pr_doFieldWork 487 = .ok (.lload_n 2, 1) := by decide +kernel
theorem d_Pr_doFieldWork_488 : decode c_Pr_doFieldWork 488 = .ok (.lload 4, 2) := by decide +kernel
theorem d_Pr_doFieldWork_490 : decode c_Pr_doFieldWork 490 = .ok (.lcmp, 1) := by decide +kernel
theorem d_Pr_doFieldWork_491 : decode c_Pr_doFieldWork 491 = .ok (.ifCond .ge 7, 3) := by decide +kernel
theorem d_Pr_doFieldWork_494 : decode c_Pr_doFieldWork 494 = .ok (.iconst 1, 1) := by decide +kernel
theorem d_Pr_doFieldWork_495 : decode c_Pr_doFieldWork 495 = .ok (.goto 4, 3) := by decide +kernel
theorem d_Pr_doFieldWork_498 : decode c_Pr_doFieldWork 498 = .ok (.iconst 0, 1) := by decide +kernel
theorem d_Pr_doFieldWork_499 : decode c_Pr_doFieldWork 499 = .ok (.putfield 36, 3) := by decide +kernel
theorem d_Pr_doFieldWork_502 : decode c_Pr_doFieldWork 502 = .ok (.goto 120, 3) := by decide +kernel
theorem d_Pr_doFieldWork_505 : decode c_Pr_doFieldWork 505 = .ok (.aload_n 0, 1) := by decide +kernel
theorem d_Pr_doFieldWork_506 : decode c_Pr_doFieldWork 506 = .ok (.lload_n 2, 1) := by decide +kernel
theorem d_Pr_doFieldWork_507 : decode c_Pr_doFieldWork 507 = .ok (.lload 6, 2) := by decide +kernel
theorem d_Pr_doFieldWork_509 : decode c_Pr_doFieldWork 509 = .ok (.lcmp, 1) := by decide +kernel
theorem d_Pr_doFieldWork_510 : decode c_Pr_doFieldWork 510 = .ok (.ifCond .ge 7, 3) := by decide +kernel
theorem d_Pr_doFieldWork_513 : decode c_Pr_doFieldWork 513 = .ok (.iconst 1, 1) := by decide +kernel
theorem d_Pr_doFieldWork_514 : decode c_Pr_doFieldWork 514 = .ok (.goto 4, 3) := by decide +kernel
theorem d_Pr_doFieldWork_517 : decode c_Pr_doFieldWork 517 = .ok (.iconst 0, 1) := by decide +kernel
theorem d_Pr_doFieldWork_518 : decode c_Pr_doFieldWork 518 = .ok (.putfield 36, 3) := by decide +kernel
theorem d_Pr_doFieldWork_521 : decode c_Pr_doFieldWork 521 = .ok (.goto 101, 3) := by decide +kernel
theorem d_Pr_doFieldWork_524 : decode c_Pr_doFieldWork 524 = .ok (.aload_n 0, 1) := by decide +kernel
theorem d_Pr_doFieldWork_525 : decode c_Pr_doFieldWork 525 = .ok (.lload 4, 2) := by decide +kernel
theorem d_Pr_doFieldWork_527 : decode c_Pr_doFieldWork 527 = .ok (.lconst 0, 1) := by decide +kernel
theorem d_Pr_doFieldWork_528 : decode c_Pr_doFieldWork 528 = .ok (.lcmp, 1) := by decide +kernel
theorem d_Pr_doFieldWork_529 : decode c_Pr_doFieldWork 529 = .ok (.ifCond .eq 7, 3) := by decide +kernel
theorem d_Pr_doFieldWork_532 : decode c_Pr_doFieldWork 532 = .ok (.iconst 1, 1) := by decide +kernel
theorem d_Pr_doFieldWork_533 : decode c_Pr_doFieldWork 533 = .ok (.goto 4, 3) := by decide +kernel
theorem d_Pr_doFieldWork_536 : decode c_Pr_doFieldWork 536 = .ok (.iconst 0, 1) := by decide +kernel
theorem d_Pr_doFieldWork_537 : decode c_Pr_doFieldWork 537 = .ok (.putfield 36, 3) := by decide +kernel
theorem d_Pr_doFieldWork_540 : decode c_Pr_doFieldWork 540 = .ok (.goto 82, 3) := by decide +kernel
theorem d_Pr_doFieldWork_543 : decode c_Pr_doFieldWork 543 = .ok (.aload_n 0, 1) := by decide +kernel
theorem d_Pr_doFieldWork_544 : decode c_Pr_doFieldWork 544 = .ok (.lload 6, 2) := by decide +kernel
theorem d_Pr_doFieldWork_546 : decode c_Pr_doFieldWork 546 = .ok (.lconst 0, 1) := by decide +kernel
theorem d_Pr_doFieldWork_547 : decode c_Pr_doFieldWork 547 = .ok (.lcmp, 1) := by decide +kernel
theorem d_Pr_doFieldWork_548 : decode c_Pr_doFieldWork 548 = .ok (.ifCond .eq 7, 3) := by decide +kernel
theorem d_Pr_doFieldWork_551 : decode c_Pr_doFieldWork 551 = .ok (.iconst 1, 1) := by decide +kernel
theorem d_Pr_doFieldWork_552 : decode c_Pr_doFieldWork 552 = .ok (.goto 4, 3) := by decide +kernel
theorem d_Pr_doFieldWork_555 : decode c_Pr_doFieldWork 555 = .ok (.iconst 0, 1) := by decide +kernel
theorem d_Pr_doFieldWork_556 : decode c_Pr_doFieldWork 556 = .ok (.putfield 36, 3) := by decide +kernel
theorem d_Pr_doFieldWork_559 : decode c_Pr_doFieldWork 559 = .ok (.goto 63, 3) := by decide +kernel
theorem d_Pr_doFieldWork_562 : decode c_Pr_doFieldWork 562 = .ok (.aload_n 0, 1) := by decide +kernel
theorem d_Pr_doFieldWork_563 : decode c_Pr_doFieldWork 563 = .ok (.lload_n 2, 1) := by decide +kernel
theorem d_Pr_doFieldWork_564 : decode c_Pr_doFieldWork 564 = .ok (.lconst 0, 1) := by decide +kernel
theorem d_Pr_doFieldWork_565 : decode c_Pr_doFieldWork 565 = .ok (.lcmp, 1) := by decide +kernel
theorem d_Pr_doFieldWork_566 : decode c_Pr_doFieldWork 566 = .ok (.ifCond .ne 7, 3) := by decide +kernel
theorem d_Pr_doFieldWork_569 : decode c_Pr_doFieldWork 569 = .ok (.iconst 1, 1) := by decide +kernel
theorem d_Pr_doFieldWork_570 : decode c_Pr_doFieldWork 570 = .ok (.goto 4, 3) := by decide +kernel
theorem d_Pr_doFieldWork_573 : decode c_Pr_doFieldWork 573 = .ok (.iconst 0, 1) := by decide +kernel
theorem d_Pr_doFieldWork_574 : decode c_Pr_doFieldWork 574 = .ok (.putfield 36, 3) := by decide +kernel
theorem d_Pr_doFieldWork_577 : decode c_Pr_doFieldWork 577 = .ok (.goto 45, 3) := by decide +kernel
theorem d_Pr_doFieldWork_580 : decode c_Pr_doFieldWork 580 = .ok (.aload_n 0, 1) := by decide +kernel
theorem d_Pr_doFieldWork_581 : decode c_Pr_doFieldWork 581 = .ok (.lload 6, 2) := by decide +kernel
theorem d_Pr_doFieldWork_583 : decode c_Pr_doFieldWork 583 = .ok (.lconst 0, 1) := by decide +kernel
theorem d_Pr_doFieldWork_584 : decode c_Pr_doFieldWork 584 = .ok (.lcmp, 1) := by decide +kernel
theorem d_Pr_doFieldWork_585 : decode c_Pr_doFieldWork 585 = .ok (.ifCond .ne 7, 3) := by decide +kernel
theorem d_Pr_doFieldWork_588 : decode c_Pr_doFieldWork 588 = .ok (.iconst 1, 1) := by decide +kernel
theorem d_Pr_doFieldWork_589 : decode c_Pr_doFieldWork 589 = .ok (.goto 4, 3) := by decide +kernel
theorem d_Pr_doFieldWork_592 : decode c_Pr_doFieldWork 592 = .ok (.iconst 0, 1) := by decide +kernel
theorem d_Pr_doFieldWork_593 : decode c_Pr_doFieldWork 593 = .ok (.putfield 36, 3) := by decide +kernel
theorem d_Pr_doFieldWork_596 : decode c_Pr_doFieldWork 596 = .ok (.goto 26, 3) := by decide +kernel
theorem d_Pr_doFieldWork_599 : decode c_Pr_doFieldWork 599 = .ok (.aload_n 0, 1) := by decide +kernel
theorem d_Pr_doFieldWork_600 : decode c_Pr_doFieldWork 600 = .ok (.iconst 2, 1) := by decide +kernel
theorem d_Pr_doFieldWork_601 : decode c_Pr_doFieldWork 601 = .ok (.lload 6, 2) := by decide +kernel
theorem d_Pr_doFieldWork_603 : decode c_Pr_doFieldWork 603 = .ok (.lload 6, 2) := by decide +kernel
theorem d_Pr_doFieldWork_605 : decode c_Pr_doFieldWork 605 = .ok (.ladd, 1) := by decide +kernel
theorem d_Pr_doFieldWork_606 : decode c_Pr_doFieldWork 606 = .ok (.invokevirtual 111, 3) := by decide +kernel
theorem d_Pr_doFieldWork_609 : decode c_Pr_doFieldWork 609 = .ok (.goto 13, 3) := by decide +kernel
theorem d_Pr_doFieldWork_612 : decode c_Pr_doFieldWork 612 = .ok (.aload_n 0, 1) := by decide +kernel
theorem d_Pr_doFieldWork_613 : decode c_Pr_doFieldWork 613 = .ok (.getfield 18, 3) := by decide +kernel
theorem d_Pr_doFieldWork_616 : decode c_Pr_doFieldWork 616 = .ok (.iconst 0, 1) := by decide +kernel
theorem d_Pr_doFieldWork_617 : decode c_Pr_doFieldWork 617 = .ok (.lload 6, 2) := by decide +kernel
theorem d_Pr_doFieldWork_619 : decode c_Pr_doFieldWork 619 = .ok (.invokevirtual 99, 3) := by decide +kernel
theorem d_Pr_doFieldWork_622 : decode c_Pr_doFieldWork 622 = .ok (.return_, 1) := by decide +kernel
theorem d_Pr_putResult_0 : decode c_Pr_putResult 0 = .ok (.aload_n 0, 1) := by decide +kernel
theorem d_Pr_putResult_1 : decode c_Pr_putResult 1 = .ok (.lload_n 2, 1) := by decide +kernel
theorem d_Pr_putResult_2 : decode c_Pr_putResult 2 = .ok (.lconst 0, 1) := by decide +kernel
theorem d_Pr_putResult_3 : decode c_Pr_putResult 3 = .ok (.lcmp, 1) := by decide +kernel
theorem d_Pr_putResult_4 : decode c_Pr_putResult 4 = .ok (.ifCond .lt 15, 3) := by decide +kernel
theorem d_Pr_putResult_7 : decode c_Pr_putResult 7 = .ok (.lload_n 2, 1) := by decide +kernel
theorem d_Pr_putResult_8 : decode c_Pr_putResult 8 = .ok (.aload_n 0, 1) := by decide +kernel
theorem d_Pr_putResult_9 : decode c_Pr_putResult 9 = .ok (.getfield 18, 3) := by decide +kernel
theorem d_Pr_putResult_12 : decode c_Pr_putResult 12 = .ok (.getfield 116, 3) := by decide +kernel
theorem d_Pr_putResult_15 : decode c_Pr_putResult 15 = .ok (.lcmp, 1) := by decide +kernel
theorem d_Pr_putResult_16 : decode c_Pr_putResult 16 = .ok (.ifCond .lt 7, 3) := by decide +kernel
theorem d_Pr_putResult_19 : decode c_Pr_putResult 19 = .ok (.iconst 1, 1) := by decide +kernel
theorem d_Pr_putResult_20 : decode c_Pr_putResult 20 = .ok (.goto 4, 3) := by decide +kernel
theorem d_Pr_putResult_23 : decode c_Pr_putResult 23 = .ok (.iconst 0, 1) := by decide +kernel
theorem d_Pr_putResult_24 : decode c_Pr_putResult 24 = .ok (.putfield 36, 3) := by decide +kernel
theorem d_Pr_putResult_27 : decode c_Pr_putResult 27 = .ok (.aload_n 0, 1) := by decide +kernel
theorem d_Pr_putResult_28 : decode c_Pr_putResult 28 = .ok (.getfield 18, 3) := by decide +kernel
theorem d_Pr_putResult_31 : decode c_Pr_putResult 31 = .ok (.iload_n 1, 1) := by decide +kernel
theorem d_Pr_putResult_32 : decode c_Pr_putResult 32 = .ok (.lload_n 2, 1) := by decide +kernel
theorem d_Pr_putResult_33 : decode c_Pr_putResult 33 = .ok (.aload_n 0, 1) := by decide +kernel
theorem d_Pr_putResult_34 : decode c_Pr_putResult 34 = .ok (.getfield 18, 3) := by decide +kernel
theorem d_Pr_putResult_37 : decode c_Pr_putResult 37 = .ok (.getfield 116, 3) := by decide +kernel
theorem d_Pr_putResult_40 : decode c_Pr_putResult 40 = .ok (.invokestatic 120, 3) := by decide +kernel
theorem d_Pr_putResult_43 : decode c_Pr_putResult 43 = .ok (.invokevirtual 99, 3) := by decide +kernel
theorem d_Pr_putResult_46 : decode c_Pr_putResult 46 = .ok (.return_, 1) := by decide +kernel
end
section
theorem d_Re_init_0 : decode c_Re_init 0 = .ok (.aload_n 0, 1) := by decide +kernel
theorem d_Re_init_1 : decode c_Re_init 1 = .ok (.invokespecial 3, 3) := by decide +kernel
theorem d_Re_init_4 : decode c_Re_init 4 = .ok (.aload_n 0, 1) := by decide +kernel
theorem d_Re_init_5 : decode c_Re_init 5 = .ok (.bipush 7, 2) := by decide +kernel
theorem d_Re_init_7 : decode c_Re_init 7 = .ok (.newarray .long, 2) := by decide +kernel
theorem d_Re_init_9 : decode c_Re_init 9 = .ok (.putfield 9, 3) := by decide +kernel
theorem d_Re_init_12 : decode c_Re_init 12 = .ok (.aload_n 0, 1) := by decide +kernel
theorem d_Re_init_13 : decode c_Re_init 13 = .ok (.lconst 1, 1) := by decide +kernel
theorem d_Re_init_14 : decode c_Re_init 14 = .ok (.putfield 15, 3) := by decide +kernel
theorem d_Re_init_17 : decode c_Re_init 17 = .ok (.aload_n 0, 1) := by decide +kernel
theorem d_Re_init_18 : decode c_Re_init 18 = .ok (.lconst 1, 1) := by decide +kernel
theorem d_Re_init_19 : decode c_Re_init 19 = .ok (.putfield 19, 3) := by decide +kernel
theorem d_Re_init_22 : decode c_Re_init 22 = .ok (.return_, 1) := by decide +kernel
theorem d_Re_digit_0 : decode c_Re_digit 0 = .ok (.aload_n 0, 1) := by decide +kernel
theorem d_Re_digit_1 : decode c_Re_digit 1 = .ok (.getfield 9, 3) := by decide +kernel
theorem d_Re_digit_4 : decode c_Re_digit 4 = .ok (.iload_n 1, 1) := by decide +kernel
theorem d_Re_digit_5 : decode c_Re_digit 5 = .ok (.laload, 1) := by decide +kernel
theorem d_Re_digit_6 : decode c_Re_digit 6 = .ok (.getstatic 22, 3) := by decide +kernel
theorem d_Re_digit_9 : decode c_Re_digit 9 = .ok (.iload_n 2, 1) := by decide +kernel
theorem d_Re_digit_10 : decode c_Re_digit 10 = .ok (.laload, 1) := by decide +kernel
theorem d_Re_digit_11 : decode c_Re_digit 11 = .ok (.ldiv, 1) := by decide +kernel
theorem d_Re_digit_12 : decode c_Re_digit 12 = .ok (.ldc2_w 25, 3) := by decide +kernel
theorem d_Re_digit_15 : decode c_Re_digit 15 = .ok (.lrem, 1) := by decide +kernel
theorem d_Re_digit_16 : decode c_Re_digit 16 = .ok (.l2i, 1) := by decide +kernel
theorem d_Re_digit_17 : decode c_Re_digit 17 = .ok (.ireturn, 1) := by decide +kernel
theorem d_Re_chooseField_0 : decode c_Re_chooseField 0 = .ok (.iload_n 1, 1) := by decide +kernel
theorem d_Re_chooseField_1 : decode c_Re_chooseField 1 = .ok (.tableswitch 110 0 6 #[43, 52, 61, 70, 79, 90, 100], 43) := by decide +kernel
theorem d_Re_chooseField_44 : decode c_Re_chooseField 44 = .ok (.aload_n 0, 1) := by decide +kernel
theorem d_Re_chooseField_45 : decode c_Re_chooseField 45 = .ok (.iload_n 2, 1) := by decide +kernel
theorem d_Re_chooseField_46 : decode c_Re_chooseField 46 = .ok (.iload_n 2, 1) := by decide +kernel
theorem d_Re_chooseField_47 : decode c_Re_chooseField 47 = .ok (.invokevirtual 27, 3) := by decide +kernel
theorem d_Re_chooseField_50 : decode c_Re_chooseField 50 = .ok (.goto 68, 3) := by decide +kernel
theorem d_Re_chooseField_53 : decode c_Re_chooseField 53 = .ok (.aload_n 0, 1) := by decide +kernel
theorem d_Re_chooseField_54 : decode c_Re_chooseField 54 = .ok (.iconst 0, 1) := by decide +kernel
theorem d_Re_chooseField_55 : decode c_Re_chooseField 55 = .ok (.iload_n 2, 1) := by decide +kernel
theorem d_Re_chooseField_56 : decode c_Re_chooseField 56 = .ok (.invokevirtual 27, 3) := by decide +kernel
theorem d_Re_chooseField_59 : decode c_Re_chooseField 59 = .ok (.goto 59, 3) := by decide +kernel
theorem d_Re_chooseField_62 : decode c_Re_chooseField 62 = .ok (.aload_n 0, 1) := by decide +kernel
theorem d_Re_chooseField_63 : decode c_Re_chooseField 63 = .ok (.iconst 2, 1) := by decide +kernel
theorem d_Re_chooseField_64 : decode c_Re_chooseField 64 = .ok (.iconst 2, 1) := by decide +kernel
theorem d_Re_chooseField_65 : decode c_Re_chooseField 65 = .ok (.invokevirtual 27, 3) := by decide +kernel
theorem d_Re_chooseField_68 : decode c_Re_chooseField 68 = .ok (.goto 50, 3) := by decide +kernel
theorem d_Re_chooseField_71 : decode c_Re_chooseField 71 = .ok (.aload_n 0, 1) := by decide +kernel
theorem d_Re_chooseField_72 : decode c_Re_chooseField 72 = .ok (.iconst 0, 1) := by decide +kernel
theorem d_Re_chooseField_73 : decode c_Re_chooseField 73 = .ok (.iconst 2, 1) := by decide +kernel
theorem d_Re_chooseField_74 : decode c_Re_chooseField 74 = .ok (.invokevirtual 27, 3) := by decide +kernel
theorem d_Re_chooseField_77 : decode c_Re_chooseField 77 = .ok (.goto 41, 3) := by decide +kernel
theorem d_Re_chooseField_80 : decode c_Re_chooseField 80 = .ok (.aload_n 0, 1) := by decide +kernel
theorem d_Re_chooseField_81 : decode c_Re_chooseField 81 = .ok (.bipush 13, 2) := by decide +kernel
theorem d_Re_chooseField_83 : decode c_Re_chooseField 83 = .ok (.bipush 13, 2) := by decide +kernel
theorem d_Re_chooseField_85 : decode c_Re_chooseField 85 = .ok (.invokevirtual 27, 3) := by decide +kernel
theorem d_Re_chooseField_88 : decode c_Re_chooseField 88 = .ok (.goto 30, 3) := by decide +kernel
theorem d_Re_chooseField_91 : decode c_Re_chooseField 91 = .ok (.aload_n 0, 1) := by decide +kernel
theorem d_Re_chooseField_92 : decode c_Re_chooseField 92 = .ok (.iconst 3, 1) := by decide +kernel
theorem d_Re_chooseField_93 : decode c_Re_chooseField 93 = .ok (.bipush 12, 2) := by decide +kernel
theorem d_Re_chooseField_95 : decode c_Re_chooseField 95 = .ok (.invokevirtual 27, 3) := by decide +kernel
theorem d_Re_chooseField_98 : decode c_Re_chooseField 98 = .ok (.goto 20, 3) := by decide +kernel
theorem d_Re_chooseField_101 : decode c_Re_chooseField 101 = .ok (.aload_n 0, 1) := by decide +kernel
theorem d_Re_chooseField_102 : decode c_Re_chooseField 102 = .ok (.iconst 3, 1) := by decide +kernel
theorem d_Re_chooseField_103 : decode c_Re_chooseField 103 = .ok (.bipush 13, 2) := by decide +kernel
theorem d_Re_chooseField_105 : decode c_Re_chooseField 105 = .ok (.invokevirtual 27, 3) := by decide +kernel
theorem d_Re_chooseField_108 : decode c_Re_chooseField 108 = .ok (.goto 10, 3) := by decide +kernel
theorem d_Re_chooseField_111 : decode c_Re_chooseField 111 = .ok (.aload_n 0, 1) := by decide +kernel
theorem d_Re_chooseField_112 : decode c_Re_chooseField 112 = .ok (.iconst 0, 1) := by decide +kernel
theorem d_Re_chooseField_113 : decode c_Re_chooseField 113 = .ok (.bipush 13, 2) := by decide +kernel
theorem d_Re_chooseField_115 : decode c_Re_chooseField 115 = .ok (.invokevirtual 27, 3) := by decide +kernel
theorem d_Re_chooseField_118 : decode c_Re_chooseField 118 = .ok (.return_, 1) := by decide +kernel
theorem d_Re_chooseDigits_0 : decode c_Re_chooseDigits 0 = .ok (.aload_n 0, 1) := by decide +kernel
theorem d_Re_chooseDigits_1 : decode c_Re_chooseDigits 1 = .ok (.getstatic 22, 3) := by decide +kernel
theorem d_Re_chooseDigits_4 : decode c_Re_chooseDigits 4 = .ok (.iload_n 1, 1) := by decide +kernel
theorem d_Re_chooseDigits_5 : decode c_Re_chooseDigits 5 = .ok (.laload, 1) := by decide +kernel
theorem d_Re_chooseDigits_6 : decode c_Re_chooseDigits 6 = .ok (.putfield 15, 3) := by decide +kernel
theorem d_Re_chooseDigits_9 : decode c_Re_chooseDigits 9 = .ok (.aload_n 0, 1) := by decide +kernel
theorem d_Re_chooseDigits_10 : decode c_Re_chooseDigits 10 = .ok (.getstatic 22, 3) := by decide +kernel
theorem d_Re_chooseDigits_13 : decode c_Re_chooseDigits 13 = .ok (.iload_n 2, 1) := by decide +kernel
theorem d_Re_chooseDigits_14 : decode c_Re_chooseDigits 14 = .ok (.iload_n 1, 1) := by decide +kernel
theorem d_Re_chooseDigits_15 : decode c_Re_chooseDigits 15 = .ok (.isub, 1) := by decide +kernel
theorem d_Re_chooseDigits_16 : decode c_Re_chooseDigits 16 = .ok (.iconst 1, 1) := by decide +kernel
theorem d_Re_chooseDigits_17 : decode c_Re_chooseDigits 17 = .ok (.iadd, 1) := by decide +kernel
theorem d_Re_chooseDigits_18 : decode c_Re_chooseDigits 18 = .ok (.laload, 1) := by decide +kernel
theorem d_Re_chooseDigits_19 : decode c_Re_chooseDigits 19 = .ok (.putfield 19, 3) := by decide +kernel
theorem d_Re_chooseDigits_22 : decode c_Re_chooseDigits 22 = .ok (.return_, 1) := by decide +kernel
theorem d_Re_putPart_0 : decode c_Re_putPart 0 = .ok (.aload_n 0, 1) := by decide +kernel
theorem d_Re_putPart_1 : decode c_Re_putPart 1 = .ok (.getfield 9, 3) := by decide +kernel
theorem d_Re_putPart_4 : decode c_Re_putPart 4 = .ok (.iload_n 1, 1) := by decide +kernel
theorem d_Re_putPart_5 : decode c_Re_putPart 5 = .ok (.dup2, 1) := by decide +kernel
theorem d_Re_putPart_6 : decode c_Re_putPart 6 = .ok (.laload, 1) := by decide +kernel
theorem d_Re_putPart_7 : decode c_Re_putPart 7 = .ok (.lload_n 2, 1) := by decide +kernel
theorem d_Re_putPart_8 : decode c_Re_putPart 8 = .ok (.aload_n 0, 1) := by decide +kernel
theorem d_Re_putPart_9 : decode c_Re_putPart 9 = .ok (.iload_n 1, 1) := by decide +kernel
theorem d_Re_putPart_10 : decode c_Re_putPart 10 = .ok (.invokevirtual 31, 3) := by decide +kernel
theorem d_Re_putPart_13 : decode c_Re_putPart 13 = .ok (.lsub, 1) := by decide +kernel
theorem d_Re_putPart_14 : decode c_Re_putPart 14 = .ok (.aload_n 0, 1) := by decide +kernel
theorem d_Re_putPart_15 : decode c_Re_putPart 15 = .ok (.getfield 15, 3) := by decide +kernel
theorem d_Re_putPart_18 : decode c_Re_putPart 18 = .ok (.lmul, 1) := by decide +kernel
theorem d_Re_putPart_19 : decode c_Re_putPart 19 = .ok (.ladd, 1) := by decide +kernel
theorem d_Re_putPart_20 : decode c_Re_putPart 20 = .ok (.lastore, 1) := by decide +kernel
theorem d_Re_putPart_21 : decode c_Re_putPart 21 = .ok (.return_, 1) := by decide +kernel
theorem d_Re_part_0 : decode c_Re_part 0 = .ok (.aload_n 0, 1) := by decide +kernel
theorem d_Re_part_1 : decode c_Re_part 1 = .ok (.getfield 9, 3) := by decide +kernel
theorem d_Re_part_4 : decode c_Re_part 4 = .ok (.iload_n 1, 1) := by decide +kernel
theorem d_Re_part_5 : decode c_Re_part 5 = .ok (.laload, 1) := by decide +kernel
theorem d_Re_part_6 : decode c_Re_part 6 = .ok (.aload_n 0, 1) := by decide +kernel
theorem d_Re_part_7 : decode c_Re_part 7 = .ok (.getfield 15, 3) := by decide +kernel
theorem d_Re_part_10 : decode c_Re_part 10 = .ok (.ldiv, 1) := by decide +kernel
theorem d_Re_part_11 : decode c_Re_part 11 = .ok (.aload_n 0, 1) := by decide +kernel
theorem d_Re_part_12 : decode c_Re_part 12 = .ok (.getfield 19, 3) := by decide +kernel
theorem d_Re_part_15 : decode c_Re_part 15 = .ok (.lrem, 1) := by decide +kernel
theorem d_Re_part_16 : decode c_Re_part 16 = .ok (.lreturn, 1) := by decide +kernel
end
section
theorem d_SL_charAt_0 : decode c_SL_charAt 0 = .ok (.iload_n 1, 1) := by decide +kernel
theorem d_SL_charAt_1 : decode c_SL_charAt 1 = .ok (.aload_n 0, 1) := by decide +kernel
theorem d_SL_charAt_2 : decode c_SL_charAt 2 = .ok (.arraylength, 1) := by decide +kernel
theorem d_SL_charAt_3 : decode c_SL_charAt 3 = .ok (.invokestatic 9, 3) := by decide +kernel
theorem d_SL_charAt_6 : decode c_SL_charAt 6 = .ok (.aload_n 0, 1) := by decide +kernel
theorem d_SL_charAt_7 : decode c_SL_charAt 7 = .ok (.iload_n 1, 1) := by decide +kernel
theorem d_SL_charAt_8 : decode c_SL_charAt 8 = .ok (.baload, 1) := by decide +kernel
theorem d_SL_charAt_9 : decode c_SL_charAt 9 = .ok (.sipush 255, 3) := by decide +kernel
theorem d_SL_charAt_12 : decode c_SL_charAt 12 = .ok (.iand, 1) := by decide +kernel
theorem d_SL_charAt_13 : decode c_SL_charAt 13 = .ok (.i2c, 1) := by decide +kernel
theorem d_SL_charAt_14 : decode c_SL_charAt 14 = .ok (.ireturn, 1) := by decide +kernel
theorem d_SL_indexOf_0 : decode c_SL_indexOf 0 = .ok (.iload_n 1, 1) := by decide +kernel
theorem d_SL_indexOf_1 : decode c_SL_indexOf 1 = .ok (.invokestatic 88, 3) := by decide +kernel
theorem d_SL_indexOf_4 : decode c_SL_indexOf 4 = .ok (.ifCond .ne 5, 3) := by decide +kernel
theorem d_SL_indexOf_7 : decode c_SL_indexOf 7 = .ok (.iconst (-1), 1) := by decide +kernel
theorem d_SL_indexOf_8 : decode c_SL_indexOf 8 = .ok (.ireturn, 1) := by decide +kernel
theorem d_SL_indexOf_9 : decode c_SL_indexOf 9 = .ok (.iload_n 2, 1) := by decide +kernel
theorem d_SL_indexOf_10 : decode c_SL_indexOf 10 = .ok (.iconst 0, 1) := by decide +kernel
theorem d_SL_indexOf_11 : decode c_SL_indexOf 11 = .ok (.invokestatic 92, 3) := by decide +kernel
theorem d_SL_indexOf_14 : decode c_SL_indexOf 14 = .ok (.istore_n 2, 1) := by decide +kernel
theorem d_SL_indexOf_15 : decode c_SL_indexOf 15 = .ok (.iload_n 3, 1) := by decide +kernel
theorem d_SL_indexOf_16 : decode c_SL_indexOf 16 = .ok (.aload_n 0, 1) := by decide +kernel
theorem d_SL_indexOf_17 : decode c_SL_indexOf 17 = .ok (.arraylength, 1) := by decide +kernel
theorem d_SL_indexOf_18 : decode c_SL_indexOf 18 = .ok (.invokestatic 38, 3) := by decide +kernel
theorem d_SL_indexOf_21 : decode c_SL_indexOf 21 = .ok (.istore_n 3, 1) := by decide +kernel
theorem d_SL_indexOf_22 : decode c_SL_indexOf 22 = .ok (.iload_n 2, 1) := by decide +kernel
theorem d_SL_indexOf_23 : decode c_SL_indexOf 23 = .ok (.iload_n 3, 1) := by decide +kernel
theorem d_SL_indexOf_24 : decode c_SL_indexOf 24 = .ok (.if_icmp .lt 5, 3) := by decide +kernel
theorem d_SL_indexOf_27 : decode c_SL_indexOf 27 = .ok (.iconst (-1), 1) := by decide +kernel
theorem d_SL_indexOf_28 : decode c_SL_indexOf 28 = .ok (.ireturn, 1) := by decide +kernel
theorem d_SL_indexOf_29 : decode c_SL_indexOf 29 = .ok (.aload_n 0, 1) := by decide +kernel
theorem d_SL_indexOf_30 : decode c_SL_indexOf 30 = .ok (.iload_n 1, 1) := by decide +kernel
theorem d_SL_indexOf_31 : decode c_SL_indexOf 31 = .ok (.iload_n 2, 1) := by decide +kernel
theorem d_SL_indexOf_32 : decode c_SL_indexOf 32 = .ok (.iload_n 3, 1) := by decide +kernel
theorem d_SL_indexOf_33 : decode c_SL_indexOf 33 = .ok (.invokestatic 95, 3) := by decide +kernel
theorem d_SL_indexOf_36 : decode c_SL_indexOf 36 = .ok (.ireturn, 1) := by decide +kernel
theorem d_SL_canEncode_0 : decode c_SL_canEncode 0 = .ok (.iload_n 0, 1) := by decide +kernel
theorem d_SL_canEncode_1 : decode c_SL_canEncode 1 = .ok (.ifCond .lt 14, 3) := by decide +kernel
theorem d_SL_canEncode_4 : decode c_SL_canEncode 4 = .ok (.iload_n 0, 1) := by decide +kernel
theorem d_SL_canEncode_5 : decode c_SL_canEncode 5 = .ok (.sipush 255, 3) := by decide +kernel
theorem d_SL_canEncode_8 : decode c_SL_canEncode 8 = .ok (.if_icmp .gt 7, 3) := by decide +kernel
theorem d_SL_canEncode_11 : decode c_SL_canEncode 11 = .ok (.iconst 1, 1) := by decide +kernel
theorem d_SL_canEncode_12 : decode c_SL_canEncode 12 = .ok (.goto 4, 3) := by decide +kernel
theorem d_SL_canEncode_15 : decode c_SL_canEncode 15 = .ok (.iconst 0, 1) := by decide +kernel
theorem d_SL_canEncode_16 : decode c_SL_canEncode 16 = .ok (.ireturn, 1) := by decide +kernel
theorem d_SL_indexOfChar_0 : decode c_SL_indexOfChar 0 = .ok (.iload_n 1, 1) := by decide +kernel
theorem d_SL_indexOfChar_1 : decode c_SL_indexOfChar 1 = .ok (.i2b, 1) := by decide +kernel
theorem d_SL_indexOfChar_2 : decode c_SL_indexOfChar 2 = .ok (.istore 4, 2) := by decide +kernel
theorem d_SL_indexOfChar_4 : decode c_SL_indexOfChar 4 = .ok (.iload_n 2, 1) := by decide +kernel
theorem d_SL_indexOfChar_5 : decode c_SL_indexOfChar 5 = .ok (.istore 5, 2) := by decide +kernel
theorem d_SL_indexOfChar_7 : decode c_SL_indexOfChar 7 = .ok (.iload 5, 2) := by decide +kernel
theorem d_SL_indexOfChar_9 : decode c_SL_indexOfChar 9 = .ok (.iload_n 3, 1) := by decide +kernel
theorem d_SL_indexOfChar_10 : decode c_SL_indexOfChar 10 = .ok (.if_icmp .ge 21, 3) := by decide +kernel
theorem d_SL_indexOfChar_13 : decode c_SL_indexOfChar 13 = .ok (.aload_n 0, 1) := by decide +kernel
theorem d_SL_indexOfChar_14 : decode c_SL_indexOfChar 14 = .ok (.iload 5, 2) := by decide +kernel
theorem d_SL_indexOfChar_16 : decode c_SL_indexOfChar 16 = .ok (.baload, 1) := by decide +kernel
theorem d_SL_indexOfChar_17 : decode c_SL_indexOfChar 17 = .ok (.iload 4, 2) := by decide +kernel
theorem d_SL_indexOfChar_19 : decode c_SL_indexOfChar 19 = .ok (.if_icmp .ne 6, 3) := by decide +kernel
theorem d_SL_indexOfChar_22 : decode c_SL_indexOfChar 22 = .ok (.iload 5, 2) := by decide +kernel
theorem d_SL_indexOfChar_24 : decode c_SL_indexOfChar 24 = .ok (.ireturn, 1) := by decide +kernel
theorem d_SL_indexOfChar_25 : decode c_SL_indexOfChar 25 = .ok (.iinc 5 1, 3) := by decide +kernel
theorem d_SL_indexOfChar_28 : decode c_SL_indexOfChar 28 = .ok (.goto (-21), 3) := by decide +kernel
theorem d_SL_indexOfChar_31 : decode c_SL_indexOfChar 31 = .ok (.iconst (-1), 1) := by decide +kernel
theorem d_SL_indexOfChar_32 : decode c_SL_indexOfChar 32 = .ok (.ireturn, 1) := by decide +kernel
end
section
theorem d_St_length_0 : decode c_St_length 0 = .ok (.aload_n 0, 1) := by decide +kernel
theorem d_St_length_1 : decode c_St_length 1 = .ok (.getfield 9, 3) := by decide +kernel
theorem d_St_length_4 : decode c_St_length 4 = .ok (.arraylength, 1) := by decide +kernel
theorem d_St_length_5 : decode c_St_length 5 = .ok (.aload_n 0, 1) := by decide +kernel
theorem d_St_length_6 : decode c_St_length 6 = .ok (.invokevirtual 335, 3) := by decide +kernel
theorem d_St_length_9 : decode c_St_length 9 = .ok (.ishr, 1) := by decide +kernel
theorem d_St_length_10 : decode c_St_length 10 = .ok (.ireturn, 1) := by decide +kernel
theorem d_St_coder_0 : decode c_St_coder 0 = .ok (.getstatic 38, 3) := by decide +kernel
theorem d_St_coder_3 : decode c_St_coder 3 = .ok (.ifCond .eq 10, 3) := by decide +kernel
theorem d_St_coder_6 : decode c_St_coder 6 = .ok (.aload_n 0, 1) := by decide +kernel
theorem d_St_coder_7 : decode c_St_coder 7 = .ok (.getfield 15, 3) := by decide +kernel
theorem d_St_coder_10 : decode c_St_coder 10 = .ok (.goto 4, 3) := by decide +kernel
theorem d_St_coder_13 : decode c_St_coder 13 = .ok (.iconst 1, 1) := by decide +kernel
theorem d_St_coder_14 : decode c_St_coder 14 = .ok (.ireturn, 1) := by decide +kernel
theorem d_St_charAt_0 : decode c_St_charAt 0 = .ok (.aload_n 0, 1) := by decide +kernel
theorem d_St_charAt_1 : decode c_St_charAt 1 = .ok (.invokevirtual 492, 3) := by decide +kernel
theorem d_St_charAt_4 : decode c_St_charAt 4 = .ok (.ifCond .eq 12, 3) := by decide +kernel
theorem d_St_charAt_7 : decode c_St_charAt 7 = .ok (.aload_n 0, 1) := by decide +kernel
theorem d_St_charAt_8 : decode c_St_charAt 8 = .ok (.getfield 9, 3) := by decide +kernel
theorem d_St_charAt_11 : decode c_St_charAt 11 = .ok (.iload_n 1, 1) := by decide +kernel
theorem d_St_charAt_12 : decode c_St_charAt 12 = .ok (.invokestatic 495, 3) := by decide +kernel
theorem d_St_charAt_15 : decode c_St_charAt 15 = .ok (.ireturn, 1) := by decide +kernel
theorem d_St_charAt_16 : decode c_St_charAt 16 = .ok (.aload_n 0, 1) := by decide +kernel
theorem d_St_charAt_17 : decode c_St_charAt 17 = .ok (.getfield 9, 3) := by decide +kernel
theorem d_St_charAt_20 : decode c_St_charAt 20 = .ok (.iload_n 1, 1) := by decide +kernel
theorem d_St_charAt_21 : decode c_St_charAt 21 = .ok (.invokestatic 498, 3) := by decide +kernel
theorem d_St_charAt_24 : decode c_St_charAt 24 = .ok (.ireturn, 1) := by decide +kernel
theorem d_St_isLatin1_0 : decode c_St_isLatin1 0 = .ok (.getstatic 38, 3) := by decide +kernel
theorem d_St_isLatin1_3 : decode c_St_isLatin1 3 = .ok (.ifCond .eq 14, 3) := by decide +kernel
theorem d_St_isLatin1_6 : decode c_St_isLatin1 6 = .ok (.aload_n 0, 1) := by decide +kernel
theorem d_St_isLatin1_7 : decode c_St_isLatin1 7 = .ok (.getfield 15, 3) := by decide +kernel
theorem d_St_isLatin1_10 : decode c_St_isLatin1 10 = .ok (.ifCond .ne 7, 3) := by decide +kernel
theorem d_St_isLatin1_13 : decode c_St_isLatin1 13 = .ok (.iconst 1, 1) := by decide +kernel
theorem d_St_isLatin1_14 : decode c_St_isLatin1 14 = .ok (.goto 4, 3) := by decide +kernel
theorem d_St_isLatin1_17 : decode c_St_isLatin1 17 = .ok (.iconst 0, 1) := by decide +kernel
theorem d_St_isLatin1_18 : decode c_St_isLatin1 18 = .ok (.ireturn, 1) := by decide +kernel
theorem d_St_checkIndex_0 : decode c_St_checkIndex 0 = .ok (.iload_n 0, 1) := by decide +kernel
theorem d_St_checkIndex_1 : decode c_St_checkIndex 1 = .ok (.iload_n 1, 1) := by decide +kernel
theorem d_St_checkIndex_2 : decode c_St_checkIndex 2 = .ok (.getstatic 1053, 3) := by decide +kernel
theorem d_St_checkIndex_5 : decode c_St_checkIndex 5 = .ok (.invokestatic 1059, 3) := by decide +kernel
theorem d_St_checkIndex_8 : decode c_St_checkIndex 8 = .ok (.pop, 1) := by decide +kernel
theorem d_St_checkIndex_9 : decode c_St_checkIndex 9 = .ok (.return_, 1) := by decide +kernel
theorem d_St_indexOf0_0 : decode c_St_indexOf0 0 = .ok (.aload_n 0, 1) := by decide +kernel
theorem d_St_indexOf0_1 : decode c_St_indexOf0 1 = .ok (.iload_n 1, 1) := by decide +kernel
theorem d_St_indexOf0_2 : decode c_St_indexOf0 2 = .ok (.iconst 0, 1) := by decide +kernel
theorem d_St_indexOf0_3 : decode c_St_indexOf0 3 = .ok (.invokevirtual 633, 3) := by decide +kernel
theorem d_St_indexOf0_6 : decode c_St_indexOf0 6 = .ok (.ireturn, 1) := by decide +kernel
theorem d_St_indexOf1_0 : decode c_St_indexOf1 0 = .ok (.aload_n 0, 1) := by decide +kernel
theorem d_St_indexOf1_1 : decode c_St_indexOf1 1 = .ok (.invokevirtual 492, 3) := by decide +kernel
theorem d_St_indexOf1_4 : decode c_St_indexOf1 4 = .ok (.ifCond .eq 19, 3) := by decide +kernel
theorem d_St_indexOf1_7 : decode c_St_indexOf1 7 = .ok (.aload_n 0, 1) := by decide +kernel
theorem d_St_indexOf1_8 : decode c_St_indexOf1 8 = .ok (.getfield 9, 3) := by decide +kernel
theorem d_St_indexOf1_11 : decode c_St_indexOf1 11 = .ok (.iload_n 1, 1) := by decide +kernel
theorem d_St_indexOf1_12 : decode c_St_indexOf1 12 = .ok (.iload_n 2, 1) := by decide +kernel
theorem d_St_indexOf1_13 : decode c_St_indexOf1 13 = .ok (.aload_n 0, 1) := by decide +kernel
theorem d_St_indexOf1_14 : decode c_St_indexOf1 14 = .ok (.invokevirtual 505, 3) := by decide +kernel
theorem d_St_indexOf1_17 : decode c_St_indexOf1 17 = .ok (.invokestatic 637, 3) := by decide +kernel
theorem d_St_indexOf1_20 : decode c_St_indexOf1 20 = .ok (.goto 16, 3) := by decide +kernel
theorem d_St_indexOf1_23 : decode c_St_indexOf1 23 = .ok (.aload_n 0, 1) := by decide +kernel
theorem d_St_indexOf1_24 : decode c_St_indexOf1 24 = .ok (.getfield 9, 3) := by decide +kernel
theorem d_St_indexOf1_27 : decode c_St_indexOf1 27 = .ok (.iload_n 1, 1) := by decide +kernel
theorem d_St_indexOf1_28 : decode c_St_indexOf1 28 = .ok (.iload_n 2, 1) := by decide +kernel
theorem d_St_indexOf1_29 : decode c_St_indexOf1 29 = .ok (.aload_n 0, 1) := by decide +kernel
theorem d_St_indexOf1_30 : decode c_St_indexOf1 30 = .ok (.invokevirtual 505, 3) := by decide +kernel
theorem d_St_indexOf1_33 : decode c_St_indexOf1 33 = .ok (.invokestatic 640, 3) := by decide +kernel
theorem d_St_indexOf1_36 : decode c_St_indexOf1 36 = .ok (.ireturn, 1) := by decide +kernel
theorem d_St_checkBoundsBeginEnd_0 : decode c_St_checkBoundsBeginEnd 0 = .ok (.iload_n 0, 1) := by decide +kernel
theorem d_St_checkBoundsBeginEnd_1 : decode c_St_checkBoundsBeginEnd 1 = .ok (.iload_n 1, 1) := by decide +kernel
theorem d_St_checkBoundsBeginEnd_2 : decode c_St_checkBoundsBeginEnd 2 = .ok (.iload_n 2, 1) := by decide +kernel
theorem d_St_checkBoundsBeginEnd_3 : decode c_St_checkBoundsBeginEnd 3 = .ok (.getstatic 1053, 3) := by decide +kernel
theorem d_St_checkBoundsBeginEnd_6 : decode c_St_checkBoundsBeginEnd 6 = .ok (.invokestatic 1062, 3) := by decide +kernel
theorem d_St_checkBoundsBeginEnd_9 : decode c_St_checkBoundsBeginEnd 9 = .ok (.pop, 1) := by decide +kernel
theorem d_St_checkBoundsBeginEnd_10 : decode c_St_checkBoundsBeginEnd 10 = .ok (.return_, 1) := by decide +kernel
end
section
theorem d_Wa_init_0 : decode c_Wa_init 0 = .ok (.aload_n 0, 1) := by decide +kernel
theorem d_Wa_init_1 : decode c_Wa_init 1 = .ok (.invokespecial 3, 3) := by decide +kernel
theorem d_Wa_init_4 : decode c_Wa_init 4 = .ok (.aload_n 0, 1) := by decide +kernel
theorem d_Wa_init_5 : decode c_Wa_init 5 = .ok (.iconst 3, 1) := by decide +kernel
theorem d_Wa_init_6 : decode c_Wa_init 6 = .ok (.newarray .int, 2) := by decide +kernel
theorem d_Wa_init_8 : decode c_Wa_init 8 = .ok (.putfield 11, 3) := by decide +kernel
theorem d_Wa_init_11 : decode c_Wa_init 11 = .ok (.aload_n 0, 1) := by decide +kernel
theorem d_Wa_init_12 : decode c_Wa_init 12 = .ok (.iconst 0, 1) := by decide +kernel
theorem d_Wa_init_13 : decode c_Wa_init 13 = .ok (.putfield 15, 3) := by decide +kernel
theorem d_Wa_init_16 : decode c_Wa_init 16 = .ok (.return_, 1) := by decide +kernel
theorem d_Wa_append_0 : decode c_Wa_append 0 = .ok (.iload_n 1, 1) := by decide +kernel
theorem d_Wa_append_1 : decode c_Wa_append 1 = .ok (.ifCond .lt 17, 3) := by decide +kernel
theorem d_Wa_append_4 : decode c_Wa_append 4 = .ok (.iload_n 1, 1) := by decide +kernel
theorem d_Wa_append_5 : decode c_Wa_append 5 = .ok (.bipush 16, 2) := by decide +kernel
theorem d_Wa_append_7 : decode c_Wa_append 7 = .ok (.if_icmp .ge 11, 3) := by decide +kernel
theorem d_Wa_append_10 : decode c_Wa_append 10 = .ok (.aload_n 0, 1) := by decide +kernel
theorem d_Wa_append_11 : decode c_Wa_append 11 = .ok (.getfield 15, 3) := by decide +kernel
theorem d_Wa_append_14 : decode c_Wa_append 14 = .ok (.iconst 3, 1) := by decide +kernel
theorem d_Wa_append_15 : decode c_Wa_append 15 = .ok (.if_icmp .lt 5, 3) := by decide +kernel
theorem d_Wa_append_18 : decode c_Wa_append 18 = .ok (.iconst 0, 1) := by decide +kernel
theorem d_Wa_append_19 : decode c_Wa_append 19 = .ok (.ireturn, 1) := by decide +kernel
theorem d_Wa_append_20 : decode c_Wa_append 20 = .ok (.aload_n 0, 1) := by decide +kernel
theorem d_Wa_append_21 : decode c_Wa_append 21 = .ok (.getfield 11, 3) := by decide +kernel
theorem d_Wa_append_24 : decode c_Wa_append 24 = .ok (.aload_n 0, 1) := by decide +kernel
theorem d_Wa_append_25 : decode c_Wa_append 25 = .ok (.getfield 15, 3) := by decide +kernel
theorem d_Wa_append_28 : decode c_Wa_append 28 = .ok (.iload_n 1, 1) := by decide +kernel
theorem d_Wa_append_29 : decode c_Wa_append 29 = .ok (.iastore, 1) := by decide +kernel
theorem d_Wa_append_30 : decode c_Wa_append 30 = .ok (.aload_n 0, 1) := by decide +kernel
theorem d_Wa_append_31 : decode c_Wa_append 31 = .ok (.dup, 1) := by decide +kernel
theorem d_Wa_append_32 : decode c_Wa_append 32 = .ok (.getfield 15, 3) := by decide +kernel
theorem d_Wa_append_35 : decode c_Wa_append 35 = .ok (.iconst 1, 1) := by decide +kernel
theorem d_Wa_append_36 : decode c_Wa_append 36 = .ok (.iadd, 1) := by decide +kernel
theorem d_Wa_append_37 : decode c_Wa_append 37 = .ok (.putfield 15, 3) := by decide +kernel
theorem d_Wa_append_40 : decode c_Wa_append 40 = .ok (.iconst 1, 1) := by decide +kernel
theorem d_Wa_append_41 : decode c_Wa_append 41 = .ok (.ireturn, 1) := by decide +kernel
theorem d_Wa_takeFirst_0 : decode c_Wa_takeFirst 0 = .ok (.aload_n 0, 1) := by decide +kernel
theorem d_Wa_takeFirst_1 : decode c_Wa_takeFirst 1 = .ok (.getfield 15, 3) := by decide +kernel
theorem d_Wa_takeFirst_4 : decode c_Wa_takeFirst 4 = .ok (.ifCond .ne 5, 3) := by decide +kernel
theorem d_Wa_takeFirst_7 : decode c_Wa_takeFirst 7 = .ok (.iconst (-1), 1) := by decide +kernel
theorem d_Wa_takeFirst_8 : decode c_Wa_takeFirst 8 = .ok (.ireturn, 1) := by decide +kernel
theorem d_Wa_takeFirst_9 : decode c_Wa_takeFirst 9 = .ok (.aload_n 0, 1) := by decide +kernel
theorem d_Wa_takeFirst_10 : decode c_Wa_takeFirst 10 = .ok (.getfield 11, 3) := by decide +kernel
theorem d_Wa_takeFirst_13 : decode c_Wa_takeFirst 13 = .ok (.iconst 0, 1) := by decide +kernel
theorem d_Wa_takeFirst_14 : decode c_Wa_takeFirst 14 = .ok (.iaload, 1) := by decide +kernel
theorem d_Wa_takeFirst_15 : decode c_Wa_takeFirst 15 = .ok (.istore_n 1, 1) := by decide +kernel
theorem d_Wa_takeFirst_16 : decode c_Wa_takeFirst 16 = .ok (.aload_n 0, 1) := by decide +kernel
theorem d_Wa_takeFirst_17 : decode c_Wa_takeFirst 17 = .ok (.dup, 1) := by decide +kernel
theorem d_Wa_takeFirst_18 : decode c_Wa_takeFirst 18 = .ok (.getfield 15, 3) := by decide +kernel
theorem d_Wa_takeFirst_21 : decode c_Wa_takeFirst 21 = .ok (.iconst 1, 1) := by decide +kernel
theorem d_Wa_takeFirst_22 : decode c_Wa_takeFirst 22 = .ok (.isub, 1) := by decide +kernel
theorem d_Wa_takeFirst_23 : decode c_Wa_takeFirst 23 = .ok (.putfield 15, 3) := by decide +kernel
theorem d_Wa_takeFirst_26 : decode c_Wa_takeFirst 26 = .ok (.iconst 0, 1) := by decide +kernel
theorem d_Wa_takeFirst_27 : decode c_Wa_takeFirst 27 = .ok (.istore_n 2, 1) := by decide +kernel
theorem d_Wa_takeFirst_28 : decode c_Wa_takeFirst 28 = .ok (.iload_n 2, 1) := by decide +kernel
theorem d_Wa_takeFirst_29 : decode c_Wa_takeFirst 29 = .ok (.aload_n 0, 1) := by decide +kernel
theorem d_Wa_takeFirst_30 : decode c_Wa_takeFirst 30 = .ok (.getfield 15, 3) := by decide +kernel
theorem d_Wa_takeFirst_33 : decode c_Wa_takeFirst 33 = .ok (.if_icmp .ge 23, 3) := by decide +kernel
theorem d_Wa_takeFirst_36 : decode c_Wa_takeFirst 36 = .ok (.aload_n 0, 1) := by decide +kernel
theorem d_Wa_takeFirst_37 : decode c_Wa_takeFirst 37 = .ok (.getfield 11, 3) := by decide +kernel
theorem d_Wa_takeFirst_40 : decode c_Wa_takeFirst 40 = .ok (.iload_n 2, 1) := by decide +kernel
theorem d_Wa_takeFirst_41 : decode c_Wa_takeFirst 41 = .ok (.aload_n 0, 1) := by decide +kernel
theorem d_Wa_takeFirst_42 : decode c_Wa_takeFirst 42 = .ok (.getfield 11, 3) := by decide +kernel
theorem d_Wa_takeFirst_45 : decode c_Wa_takeFirst 45 = .ok (.iload_n 2, 1) := by decide +kernel
theorem d_Wa_takeFirst_46 : decode c_Wa_takeFirst 46 = .ok (.iconst 1, 1) := by decide +kernel
theorem d_Wa_takeFirst_47 : decode c_Wa_takeFirst 47 = .ok (.iadd, 1) := by decide +kernel
theorem d_Wa_takeFirst_48 : decode c_Wa_takeFirst 48 = .ok (.iaload, 1) := by decide +kernel
theorem d_Wa_takeFirst_49 : decode c_Wa_takeFirst 49 = .ok (.iastore, 1) := by decide +kernel
theorem d_Wa_takeFirst_50 : decode c_Wa_takeFirst 50 = .ok (.iinc 2 1, 3) := by decide +kernel
theorem d_Wa_takeFirst_53 : decode c_Wa_takeFirst 53 = .ok (.goto (-25), 3) := by decide +kernel
theorem d_Wa_takeFirst_56 : decode c_Wa_takeFirst 56 = .ok (.iload_n 1, 1) := by decide +kernel
theorem d_Wa_takeFirst_57 : decode c_Wa_takeFirst 57 = .ok (.ireturn, 1) := by decide +kernel
end
section
theorem zw_map {α β : Type} {f : α → Option β} : ∀ {is : List α} {wc : List β}, is.map f = wc.map some → is.filterMap f = wc
  | [], [], _ => rfl
  | [], _ :: _, h => by simp at h
  | _ :: _, [], h => by simp at h
  | i :: is, w :: wc, h => by
    simp only [List.map_cons, List.cons.injEq] at h
    rw [List.filterMap_cons, h.1]
    simp only
    rw [zw_map h.2]
theorem zT_good {w : Cond} (h : w ∈ zT) : (w.onTables && w.keeps) = true ∨ ∃ ty, w = .arrayClass ty := good_of_word (List.mem_filter.mp h).2
def zw (y : MethodName) (b : ByteArray) (n : Nat) (r : Option FieldType) : List Cond := Cond.code y b n r :: zT
theorem zw_of {y : MethodName} {b : ByteArray} {n : Nat} {r : Option FieldType} (h : Cond.code y b n r ∈ zT) : GoodIn zT (zw y b n r) := fun w hw => by
  rcases List.mem_cons.mp hw with rfl | hw
  · exact ⟨h, zT_good h⟩
  · exact ⟨hw, zT_good hw⟩
theorem zg_V {own C : String} {i n : Nat} {y : MethodName} {b : ByteArray} {r : Option FieldType} (h1 : Cond.methodLink own i y ∈ zT) (h2 : Cond.instanceMethod y ∈ zT) (h3 : Cond.selects C y y ∈ zT) (h4 : Cond.initialized C ∈ zT) (h5 : Cond.code y b n r ∈ zT) : GoodIn zT (wsV own i C y (zw y b n r)) := by
  intro w hw
  rcases List.mem_append.mp hw with hw | hw
  · simp only [List.mem_cons, List.not_mem_nil, or_false] at hw
    rcases hw with rfl | rfl | rfl | rfl
    · exact ⟨h1, zT_good h1⟩
    · exact ⟨h2, zT_good h2⟩
    · exact ⟨h3, zT_good h3⟩
    · exact ⟨h4, zT_good h4⟩
  · exact zw_of h5 w hw
theorem zg_S {own : String} {i n : Nat} {y : MethodName} {b : ByteArray} {r : Option FieldType} (h1 : Cond.methodLink own i y ∈ zT) (h2 : Cond.static y ∈ zT) (h4 : Cond.initialized y.cls ∈ zT) (h5 : Cond.code y b n r ∈ zT) : GoodIn zT (va_wsS own i y (zw y b n r)) := by
  intro w hw
  rcases List.mem_append.mp hw with hw | hw
  · simp only [List.mem_cons, List.not_mem_nil, or_false] at hw
    rcases hw with rfl | rfl | rfl
    · exact ⟨h1, zT_good h1⟩
    · exact ⟨h2, zT_good h2⟩
    · exact ⟨h4, zT_good h4⟩
  · exact zw_of h5 w hw
-- what the start gives of constants: the powers of ten, String's flag, seven texts, two statics of Throwable
def zN : List String := [":L", "@L >L", "no p=N ?p=N sN+ sN- ?sN lN p+ p- push pop back key stop C:M down", "A=0.F B=0.F C=0.F A:B.F B=A.F A:C.F C=B.F B:C.F A=A+B.F A=A+C.F C=A+C.F A=A+1.F C=C+1.F A=A-B.F A=A-C.F C=A-C.F A=A-1.F C=C-1.F C=-C.F C=-C-1.F A<.F A>.F B>.F C>.F ?A<B.F ?A<C.F ?B.F ?C.F ?A=0.F ?C=0.F C=C+C.F A=C.F", "0123456789abcdef", "pqexsmnw", "abcdefghijklmnopqrstuvwxyz"]
def zE : List Nat := [66, 83, 79, 81, 93, 98, 19]
def zS (i : Nat) : List Nat := (zN.getD i "").toList.map Char.toNat
def zX (k : Nat → Nat) (A : Nat → Prop) (U : State) : Prop :=
  va_Z "DigitChip$Registers" "TENS" "[J" (.ref (k 0)) A U U.heap ∧ va_T .long (k 0) 15 (fun j => .long (lN (10 ^ j))) A U U.heap ∧ va_Z "java/lang/String" "COMPACT_STRINGS" "Z" (.int 1) A U U.heap ∧
  vk_S 7 ((List.range 7).map fun i => (zS i).length) ((List.range 7).map fun i => (zS i).map nI) (fun i => k (i + 1)) (fun i => k (i + 8)) A U U.heap ∧
  (∀ i, i < 7 → vk_R "DigitChip$Assembler" (zE.getD i 0) (zN.getD i "") (k (i + 1)) U) ∧
  vx_Zq Bundle.tN "UNASSIGNED_STACK" Bundle.steD A U U.heap ∧ vx_Zq Bundle.tN "SUPPRESSED_SENTINEL" Bundle.listD A U U.heap
theorem zX.to {k : Nat → Nat} {A B : Nat → Prop} {s U : State} {H : Heap} {locs : List Loc} (h : zX k A s) (hS : va_S A s.heap H locs) (hU : U.heap = H) (hW : s.WarmedH U.vm) (hB : ∀ q, B q → A q) : zX k B U := by
  obtain ⟨h1, h2, h3, h4, h5, h6, h7⟩ := h
  unfold zX
  rw [hU]
  exact ⟨va_Z.moved hW.alike ((h1.kept hS.2.1).narrow hB), va_T.moved hW.alike ((h2.kept hS.2.1).narrow hB), va_Z.moved hW.alike ((h3.kept hS.2.1).narrow hB), vk_S.moved hW.alike ((h4.kept hS.2.1).narrow hB), fun i hi => (h5 i hi).warm hW, vx_Zq.moved hW.alike ((h6.kept hS.2.1).narrow hB), vx_Zq.moved hW.alike ((h7.kept hS.2.1).narrow hB)⟩
theorem zX.blind {k : Nat → Nat} {A : Nat → Prop} {U V : State} (h : zX k A U) (hH : V.heap = U.heap) (hv : V.vm = U.vm) : zX k A V := by
  obtain ⟨h1, h2, h3, h4, h5, h6, h7⟩ := h
  have ha : U.vm.Alike V.vm := by rw [hv]; exact Vm.Alike.refl U.vm
  unfold zX
  rw [hH]
  exact ⟨va_Z.moved ha h1, va_T.moved ha h2, va_Z.moved ha h3, vk_S.moved ha h4, fun i hi => (h5 i hi).same hv, vx_Zq.moved ha h6, vx_Zq.moved ha h7⟩
-- a contract's start and end over a world
def zPre (D : va_G) (tys : List (ClassId × FieldType)) (k : Nat → Nat) (w : va_W) (sz : Nat) : State → Prop := fun U => U.heap.size = sz ∧ va_P D vCl w U.heap ∧ va_K D vCl tys U ∧ va_D (fun _ => True) w ∧ zX k (va_A w sz) U
def zB (D : va_G) (tys : List (ClassId × FieldType)) (w : va_W) (sz : Nat) : va_W → State → Prop := fun w1 t => va_P D vCl w1 t.heap ∧ va_K D vCl tys t ∧ va_D (va_A w sz) w1
theorem zPre.blind {D : va_G} {tys : List (ClassId × FieldType)} {k : Nat → Nat} {w : va_W} {sz : Nat} {av : List Value} : FrameBlind (va_Pc av (zPre D tys k w sz)) := by
  intro a U g mk q
  obtain ⟨q0, q1, qP, qK, qD, qX⟩ := q
  exact ⟨q0, q1, qP, va_K.moved (u := U) (U := U.calling g mk a) (Vm.Alike.refl U.vm) qK, qD, qX.blind rfl rfl⟩
-- what holds all through a method's body
def zCx (p : Program) (s : State) (m : MethodId) (args : Array Value) (meth : Method) (c : Code) (cc : ByteArray) (nL : Nat) (own : String) (D : va_G) (tys : List (ClassId × FieldType)) (k : Nat → Nat) (A : Nat → Prop) : Prop :=
  p.tables.exec = Jvm.exec ∧ c.code = cc ∧ c.maxLocals = nL ∧ s.vm.findClass own = some m.cls ∧ (∀ w ∈ zT, w.before args s = true) ∧ va_K D vCl tys s ∧ zX k A s ∧ (∀ q, s.heap.size ≤ q → A q) ∧ meth.locks = false
theorem zOf {l : Launch} {y : MethodName} {b : ByteArray} {n : Nat} {r : Option FieldType} {own : String} {rm : Room} {D : va_G} {tys : List (ClassId × FieldType)} {k : Nat → Nat} {av : List Value} {w : va_W} {sz : Nat} {Qc : Array Value → State → Outcome → State → Prop} {mc ms : Nat} {free : Addr → Prop}
    (hpl : plainName y.cls = true) (ho : y.cls = own) (hn : (lg_sl av).length ≤ n)
    (body : ∀ (p : Program) (e : Env) (s : State) (m : MethodId) (below : List Frame) (meth : Method) (c : Code) (A : Nat → Prop) (ls : Array Slot), zCx p s m av.toArray meth c b n own D tys k A → meth.sig.returnType = r → meth.name = y.name → A = va_A w sz → s.heap.size = sz →
      lv_has ls n (lv_args 0 av) → va_P D vCl w s.heap → va_D A w → va_S A s.heap s.heap [] → W p l e rm s m av.toArray below meth c s.heap [] 0 0 (MQ below Qc av.toArray s mc ms free) (F0 m 0 ls [])) :
    Met l y (zw y b n r) rm (va_Pc av (zPre D tys k w sz)) Qc mc ms free := by
  refine Met.ofW (cc := b) (maxL := n) (ret := r) hpl rfl ?_
  intro p e s m args below meth c s₁ B hml hv
  obtain ⟨rfl, hsz, hP, hK, hD0, hX⟩ := hv
  have hts := atoms_spec (ws := zw y b n r) B.pre
  have hown : s.vm.findClass own = some m.cls := by rw [← ho]; exact findClass_of_methodNamed B.named
  rw [lg_entry_eq]
  refine body p e s m below meth c (va_A w sz) _ ⟨B.exec, B.bytes, hml, hown, fun w hw => hts w (List.mem_cons_of_mem _ hw), hK, hX, fun q hq => Or.inr (by omega), B.notSynchronized⟩ B.returns (name_of_methodNamed B.named B.method).1 rfl hsz (lv_entry av hn) hP (hD0.self) va_S.rf
theorem zOfF {l : Launch} {y : MethodName} {b : ByteArray} {n : Nat} {r : Option FieldType} {own : String} {rm : Room} {D : va_G} {tys : List (ClassId × FieldType)} {k : Nat → Nat} {av : List Value} {w : va_W} {sz : Nat} {Qc : Array Value → State → Outcome → State → Prop} {mc ms : Nat} {free : Addr → Prop}
    (hpl : plainFor y = true) (ho : y.cls = own) (hn : (lg_sl av).length ≤ n)
    (body : ∀ (p : Program) (e : Env) (s : State) (m : MethodId) (below : List Frame) (meth : Method) (c : Code) (A : Nat → Prop) (ls : Array Slot), zCx p s m av.toArray meth c b n own D tys k A → meth.sig.returnType = r → meth.name = y.name → A = va_A w sz → s.heap.size = sz →
      lv_has ls n (lv_args 0 av) → va_P D vCl w s.heap → va_D A w → va_S A s.heap s.heap [] → W p l e rm s m av.toArray below meth c s.heap [] 0 0 (MQ below Qc av.toArray s mc ms free) (F0 m 0 ls [])) :
    Met l y (zw y b n r) rm (va_Pc av (zPre D tys k w sz)) Qc mc ms free := by
  refine va_MetF (cc := b) (maxL := n) (ret := r) hpl rfl ?_
  intro p e s m args below meth c s₁ B hml hv
  obtain ⟨rfl, hsz, hP, hK, hD0, hX⟩ := hv
  have hts := atoms_spec (ws := zw y b n r) B.pre
  have hown : s.vm.findClass own = some m.cls := by rw [← ho]; exact findClass_of_methodNamed B.named
  rw [lg_entry_eq]
  refine body p e s m below meth c (va_A w sz) _ ⟨B.exec, B.bytes, hml, hown, fun w hw => hts w (List.mem_cons_of_mem _ hw), hK, hX, fun q hq => Or.inr (by omega), B.notSynchronized⟩ B.returns (name_of_methodNamed B.named B.method).1 rfl hsz (lv_entry av hn) hP (hD0.self) va_S.rf
section ZR
variable {p : Program} {l : Launch} {e : Env} {R : Room} {s : State} {m : MethodId} {args : Array Value} {below : List Frame} {meth : Method} {c : Code} {H : Heap} {locs : List Loc} {cells slots : Nat} {Q : State → Prop} {cc : ByteArray} {pc nL : Nat} {ls : Array Slot} {rest st0 : List Value} {own : String} {D : va_G} {tys : List (ClassId × FieldType)} {k : Nat → Nat} {A : Nat → Prop} {w w1 wc wr : va_W} {sz : Nat}
theorem zti {x y : Int32} (h : x = y) (kk : W p l e R s m args below meth c H locs cells slots Q (F0 m pc ls (.int y :: rest))) : W p l e R s m args below meth c H locs cells slots Q (F0 m pc ls (.int x :: rest)) := h ▸ kk
theorem ztl {x y : Int64} (h : x = y) (kk : W p l e R s m args below meth c H locs cells slots Q (F0 m pc ls (.long y :: rest))) : W p l e R s m args below meth c H locs cells slots Q (F0 m pc ls (.long x :: rest)) := h ▸ kk
theorem zret_i (C0 : zCx p s m args meth c cc nL own D tys k A) (hr : meth.sig.returnType = some .int) {v : Int32} {post : Int32 → va_W → Prop} (hAe : A = va_A w sz) (hP : va_P D vCl w1 H) (hD : va_D A w1) (hS : va_S A s.heap H locs) (hpost : post v w1) (hdg : decode cc pc = .ok (.ireturn, 1)) :
    W p l e R s m args below meth c H locs cells slots (MQ below (va_Qi post (zB D tys w sz) (va_A w sz)) args s cells slots (va_A w sz)) (F0 m pc ls [.int v]) := by
  obtain ⟨hx, hb, -, -, -, hK, -, -, hl⟩ := C0
  subst hAe
  exact W.iret (hlocks := hl) hx hb hr (fun t ht hW => ⟨⟨v, w1, rfl, hpost, by rw [ht]; exact hP, va_K.moved hW.alike hK, hD⟩, hS.F ht⟩) hS.2.2 hdg
theorem zret_z (C0 : zCx p s m args meth c cc nL own D tys k A) {ty : FieldType} (hr : meth.sig.returnType = some ty) {v : Int32} (hn : narrow ty (.int v) = .int v) {post : Int32 → va_W → Prop} (hAe : A = va_A w sz) (hP : va_P D vCl w1 H) (hD : va_D A w1) (hS : va_S A s.heap H locs) (hpost : post v w1) (hdg : decode cc pc = .ok (.ireturn, 1)) :
    W p l e R s m args below meth c H locs cells slots (MQ below (va_Qi post (zB D tys w sz) (va_A w sz)) args s cells slots (va_A w sz)) (F0 m pc ls [.int v]) := by
  obtain ⟨hx, hb, -, -, -, hK, -, -, hl⟩ := C0
  subst hAe
  exact W.zret (hlocks := hl) hx hb hr hn (fun t ht hW => ⟨⟨v, w1, rfl, hpost, by rw [ht]; exact hP, va_K.moved hW.alike hK, hD⟩, hS.F ht⟩) hS.2.2 hdg
theorem zret_l (C0 : zCx p s m args meth c cc nL own D tys k A) (hr : meth.sig.returnType = some .long) {v : Int64} {post : Int64 → va_W → Prop} (hAe : A = va_A w sz) (hP : va_P D vCl w1 H) (hD : va_D A w1) (hS : va_S A s.heap H locs) (hpost : post v w1) (hdg : decode cc pc = .ok (.lreturn, 1)) :
    W p l e R s m args below meth c H locs cells slots (MQ below (va_Ql post (zB D tys w sz) (va_A w sz)) args s cells slots (va_A w sz)) (F0 m pc ls [.long v]) := by
  obtain ⟨hx, hb, -, -, -, hK, -, -, hl⟩ := C0
  subst hAe
  exact W.lret (hlocks := hl) hx hb hr (fun t ht hW => ⟨⟨v, w1, rfl, hpost, by rw [ht]; exact hP, va_K.moved hW.alike hK, hD⟩, hS.F ht⟩) hS.2.2 hdg
theorem zret_v (C0 : zCx p s m args meth c cc nL own D tys k A) (hr : meth.sig.returnType = none) {post : va_W → Prop} (hAe : A = va_A w sz) (hP : va_P D vCl w1 H) (hD : va_D A w1) (hS : va_S A s.heap H locs) (hpost : post w1) (hdg : decode cc pc = .ok (.return_, 1)) :
    W p l e R s m args below meth c H locs cells slots (MQ below (va_Qv post (zB D tys w sz) (va_A w sz)) args s cells slots (va_A w sz)) (F0 m pc ls []) := by
  obtain ⟨hx, hb, -, -, -, hK, -, -, hl⟩ := C0
  subst hAe
  exact W.vret (hlocks := hl) hx hb hr (fun t ht hW => ⟨⟨w1, rfl, hpost, by rw [ht]; exact hP, va_K.moved hW.alike hK, hD⟩, hS.F ht⟩) hS.2.2 hdg
-- the callee's start, at its part of the world
theorem zarg (C0 : zCx p s m args meth c cc nL own D tys k A) (hP : va_P D vCl w H) (hD : va_D A w) (hS : va_S A s.heap H locs) (isC : List Nat) (hC : isC.map (fun i => w[i]?) = wc.map some) (hn : va_nd isC = true) {av : List Value} :
    ∀ U : State, U.heap = H → s.WarmedH U.vm → va_Pc av (zPre D tys k wc H.size) av.toArray U := by
  obtain ⟨-, -, -, -, -, hK, hX, hA, -⟩ := C0
  intro U hU hW
  exact ⟨rfl, by rw [hU], by rw [hU]; exact hP.sub isC (zw_map hC), va_K.moved hW.alike hK, (hD.sub isC hn hC).weaken (fun _ _ _ _ => trivial), hX.to hS hU hW (va_free hD hS hA isC hC)⟩
theorem zgo_v {post : va_W → Prop} {a : Array Value} (C0 : zCx p s m args meth c cc nL own D tys k A) (hr : va_Run p l e R s m args below meth c H locs cells slots 0 0 (F0 m pc ls st0) rest (va_Qv post (zB D tys wc H.size) (va_A wc H.size) a) (va_A wc H.size))
    (hP : va_P D vCl w H) (hD : va_D A w) (hS : va_S A s.heap H locs) (isC isR : List Nat) (hC : isC.map (fun i => w[i]?) = wc.map some) (hR : isR.map (fun i => w[i]?) = wr.map some) (hn : va_nd isR = true) (hdis : ∀ i ∈ isR, i ∉ isC)
    (kk : ∀ (w1 : va_W) (H1 : Heap) (locs1 : List Loc), post w1 → va_P D vCl (wr ++ w1) H1 → va_D A (wr ++ w1) → va_S A s.heap H1 locs1 → W p l e R s m args below meth c H1 locs1 cells slots Q (F0 m (pc + 3) ls rest)) :
    W p l e R s m args below meth c H locs cells slots Q (F0 m pc ls st0) := by
  obtain ⟨-, -, -, -, -, hK, hX, hA, -⟩ := C0
  have hFc := va_free (wc := wc) hD hS hA isC hC
  refine va_callv hr hS (fun q _ h => hFc q h) hFc (fun u t H1 locs1 ht hvm hw hB hz1 hk1 hS1 => ?_)
  obtain ⟨hP1, hK1, hD1⟩ := hB
  rw [ht] at hP1
  obtain ⟨hP2, hD2⟩ := va_join (wr := wr) (w1 := u) hP hD isC isR hC hR hn hdis hk1 hFc hP1 hD1
  exact kk u H1 locs1 hw hP2 hD2 hS1
theorem zgo_i {post : Int32 → va_W → Prop} {a : Array Value} (C0 : zCx p s m args meth c cc nL own D tys k A) (hr : va_Run p l e R s m args below meth c H locs cells slots 0 0 (F0 m pc ls st0) rest (va_Qi post (zB D tys wc H.size) (va_A wc H.size) a) (va_A wc H.size))
    (hP : va_P D vCl w H) (hD : va_D A w) (hS : va_S A s.heap H locs) (isC isR : List Nat) (hC : isC.map (fun i => w[i]?) = wc.map some) (hR : isR.map (fun i => w[i]?) = wr.map some) (hn : va_nd isR = true) (hdis : ∀ i ∈ isR, i ∉ isC)
    (kk : ∀ (r : Int32) (w1 : va_W) (H1 : Heap) (locs1 : List Loc), post r w1 → va_P D vCl (wr ++ w1) H1 → va_D A (wr ++ w1) → va_S A s.heap H1 locs1 → W p l e R s m args below meth c H1 locs1 cells slots Q (F0 m (pc + 3) ls (.int r :: rest))) :
    W p l e R s m args below meth c H locs cells slots Q (F0 m pc ls st0) := by
  obtain ⟨-, -, -, -, -, hK, hX, hA, -⟩ := C0
  have hFc := va_free (wc := wc) hD hS hA isC hC
  refine va_calli hr hS (fun q _ h => hFc q h) hFc (fun r u t H1 locs1 ht hvm hw hB hz1 hk1 hS1 => ?_)
  obtain ⟨hP1, hK1, hD1⟩ := hB
  rw [ht] at hP1
  obtain ⟨hP2, hD2⟩ := va_join (wr := wr) (w1 := u) hP hD isC isR hC hR hn hdis hk1 hFc hP1 hD1
  exact kk r u H1 locs1 hw hP2 hD2 hS1
theorem zgo_l {post : Int64 → va_W → Prop} {a : Array Value} (C0 : zCx p s m args meth c cc nL own D tys k A) (hr : va_Run p l e R s m args below meth c H locs cells slots 0 0 (F0 m pc ls st0) rest (va_Ql post (zB D tys wc H.size) (va_A wc H.size) a) (va_A wc H.size))
    (hP : va_P D vCl w H) (hD : va_D A w) (hS : va_S A s.heap H locs) (isC isR : List Nat) (hC : isC.map (fun i => w[i]?) = wc.map some) (hR : isR.map (fun i => w[i]?) = wr.map some) (hn : va_nd isR = true) (hdis : ∀ i ∈ isR, i ∉ isC)
    (kk : ∀ (r : Int64) (w1 : va_W) (H1 : Heap) (locs1 : List Loc), post r w1 → va_P D vCl (wr ++ w1) H1 → va_D A (wr ++ w1) → va_S A s.heap H1 locs1 → W p l e R s m args below meth c H1 locs1 cells slots Q (F0 m (pc + 3) ls (.long r :: rest))) :
    W p l e R s m args below meth c H locs cells slots Q (F0 m pc ls st0) := by
  obtain ⟨-, -, -, -, -, hK, hX, hA, -⟩ := C0
  have hFc := va_free (wc := wc) hD hS hA isC hC
  refine va_calll hr hS (fun q _ h => hFc q h) hFc (fun r u t H1 locs1 ht hvm hw hB hz1 hk1 hS1 => ?_)
  obtain ⟨hP1, hK1, hD1⟩ := hB
  rw [ht] at hP1
  obtain ⟨hP2, hD2⟩ := va_join (wr := wr) (w1 := u) hP hD isC isR hC hR hn hdis hk1 hFc hP1 hD1
  exact kk r u H1 locs1 hw hP2 hD2 hS1
-- a call of an object's method, of a static one: the run
theorem zrunV {y : MethodName} {b : ByteArray} {n na i : Nat} {r : Option FieldType} {rm : Room} {C : String} {a : Nat} {As : List Value} {Qc : Array Value → State → Outcome → State → Prop} {free : Addr → Prop} {T : u_T} {N ci : Nat} {fs : List Value}
    (C0 : zCx p s m args meth c cc nL own D tys k A) (hP : va_P D vCl w H) (hD : va_D A w) (hS : va_S A s.heap H locs) (isC : List Nat) (hC : isC.map (fun i => w[i]?) = wc.map some) (hn : va_nd isC = true)
    (hM : Met l y (zw y b n r) rm (va_Pc (.ref a :: As) (zPre D tys k wc H.size)) Qc 0 0 free) (hg : GoodIn zT (wsV own i C y (zw y b n r)))
    (hd : y.cls = C ∧ y.cls ≠ "java/lang/invoke/MethodHandle" ∧ y.cls ≠ "java/lang/invoke/VarHandle" ∧ (parseMethodDescriptor y.desc).map (fun d => d.parameters.length) = some na) (hrc : rm.cells = 0) (hrs : rm.slots = 0) (hR : rm.frames + 1 ≤ R.frames ∧ 8 + (n + 11) + rm.locals ≤ R.locals)
    (q0 : Nat) (he : w[q0]? = some (a, .inr (ci, fs))) (hc : vCl[ci]? = some (C, T, N)) (hla : As.length = na) (hsz : ls.size = nL) (hst : st0 = As.reverse ++ .ref a :: rest) (hrw : (rest.map fun v => v.category).sum ≤ 8) (hdg : decode cc pc = .ok (.invokevirtual i, 3)) (hroom : cells ≤ R.cells ∧ slots ≤ R.slots) :
    va_Run p l e R s m args below meth c H locs cells slots 0 0 (F0 m pc ls st0) rest (Qc (Value.ref a :: As).toArray) free := by
  have hz := zarg C0 hP hD hS isC hC hn (av := .ref a :: As)
  obtain ⟨hx, hb, hml, hown, ht, hK, hX, hA, -⟩ := C0
  exact va_runV (As := As) (rest := rest) ⟨hx, hb, hml, hown, ht⟩ hM (cwV na ht hg rfl hrc hrs hd hR) ⟨zPre.blind, va_recv hK hP hc he, hz⟩ rfl hla hsz hst (lv_room hrw) hdg hroom
theorem zrunS {y : MethodName} {b : ByteArray} {n na i : Nat} {r : Option FieldType} {rm : Room} {As : List Value} {Qc : Array Value → State → Outcome → State → Prop} {free : Addr → Prop}
    (C0 : zCx p s m args meth c cc nL own D tys k A) (hP : va_P D vCl w H) (hD : va_D A w) (hS : va_S A s.heap H locs) (isC : List Nat) (hC : isC.map (fun i => w[i]?) = wc.map some) (hn : va_nd isC = true)
    (hM : Met l y (zw y b n r) rm (va_Pc As (zPre D tys k wc H.size)) Qc 0 0 free) (hg : GoodIn zT (va_wsS own i y (zw y b n r)))
    (hd : y.cls ≠ "java/lang/invoke/MethodHandle" ∧ y.cls ≠ "java/lang/invoke/VarHandle" ∧ (parseMethodDescriptor y.desc).map (fun d => d.parameters.length) = some na) (hrc : rm.cells = 0) (hrs : rm.slots = 0) (hR : rm.frames + 1 ≤ R.frames ∧ 8 + (n + 11) + rm.locals ≤ R.locals)
    (hla : As.length = na) (hsz : ls.size = nL) (hst : st0 = As.reverse ++ rest) (hrw : (rest.map fun v => v.category).sum ≤ 8) (hdg : decode cc pc = .ok (.invokestatic i, 3)) (hroom : cells ≤ R.cells ∧ slots ≤ R.slots) :
    va_Run p l e R s m args below meth c H locs cells slots 0 0 (F0 m pc ls st0) rest (Qc As.toArray) free := by
  have hz := zarg C0 hP hD hS isC hC hn (av := As)
  obtain ⟨hx, hb, hml, hown, ht, hK, hX, hA, -⟩ := C0
  exact va_runS (As := As) (rest := rest) ⟨hx, hb, hml, hown, ht⟩ hM (va_cwS na ht hg rfl hrc hrs hd hR) ⟨zPre.blind, hz⟩ rfl hla hsz hst (lv_room hrw) hdg hroom
end ZR
end
section
def zty (ca : Nat → ClassId) : List (ClassId × FieldType) := [(ca 0, .int), (ca 1, .long), (ca 2, .char)]
def uN (f : Nat → Nat) (k x : Nat) : Nat → Nat := fun j => if j = k then x else f j
def nF (f : Nat → Nat) : Nat → Int32 := fun j => nI (f j)
def lF (f : Nat → Nat) : Nat → Int64 := fun j => lN (f j)
theorem nF_at {f : Nat → Nat} {j : Nat} (h : j < 2 ^ 31) : nF f (nI j).toNatClampNeg = nI (f j) := by rw [nI_clamp h]; rfl
theorem lF_at {f : Nat → Nat} {j : Nat} (h : j < 2 ^ 31) : lF f (nI j).toNatClampNeg = lN (f j) := by rw [nI_clamp h]; rfl
theorem nF_up {f : Nat → Nat} {j x : Nat} (h : j < 2 ^ 31) : upd (nF f) (nI j).toNatClampNeg (nI x) = nF (uN f j x) := by
  rw [nI_clamp h]; funext i; unfold upd nF uN; split <;> rfl
theorem lF_up {f : Nat → Nat} {j x : Nat} (h : j < 2 ^ 31) : vp_updL (lF f) (nI j).toNatClampNeg (lN x) = lF (uN f j x) := by
  rw [nI_clamp h]; funext i; unfold vp_updL lF uN; split <;> rfl
theorem nar_c {x : Nat} (h : x < 65536) : vp_nar .char (nI x) = nI x := by
  have e := (pk_charN h).1
  unfold vp_nar
  rw [e]
theorem nF_upc {f : Nat → Nat} {j x : Nat} (h : j < 2 ^ 31) (hx : x < 65536) : upd (nF f) (nI j).toNatClampNeg (vp_nar .char (nI x)) = nF (uN f j x) := by
  rw [nar_c hx]; exact nF_up h
theorem zten {j : Nat} (h : j < 2 ^ 31) : (fun j => Value.long (lN (10 ^ j))) (nI j).toNatClampNeg = Value.long (lN (10 ^ j)) := by
  show Value.long (lN (10 ^ (nI j).toNatClampNeg)) = _
  rw [nI_clamp h]
theorem zlne {n : Nat} (h0 : 0 < n) (h : n < 2 ^ 63) : ¬ lN n = 0 := fun z => by
  have := (pk_lEQ (a := n) (b := 0) h (by decide)).mp z
  omega
theorem zinc (n : Nat) : nI n + Int32.ofInt 1 = nI (n + 1) := nI_1 n
theorem zdec {n : Nat} (h : 1 ≤ n) : nI n + Int32.ofInt (-1) = nI (n - 1) := by
  obtain ⟨m, rfl⟩ : ∃ m, n = m + 1 := ⟨n - 1, by omega⟩
  exact pk_m1 m
theorem zbn {b : Nat} (h : b ≤ 1) : narrow .boolean (.int (nI b)) = .int (nI b) := by
  rcases (show b = 0 ∨ b = 1 by omega) with rfl | rfl <;> rfl
theorem zbf {b : Nat} (h : b ≤ 1) : fits .boolean (.int (nI b)) = true := by
  rcases (show b = 0 ∨ b = 1 by omega) with rfl | rfl <;> rfl
theorem zcn {b : Nat} (h : b < 65536) : narrow .char (.int (nI b)) = .int (nI b) := (pk_charN h).1
-- the long under an index and an array, by another of the same worth
section ZS
variable {p : Program} {l : Launch} {e : Env} {R : Room} {s : State} {m : MethodId} {args : Array Value} {below : List Frame} {meth : Method} {c : Code} {H : Heap} {locs : List Loc} {cells slots : Nat} {Q : State → Prop} {pc : Nat} {ls : Array Slot} {rest : List Value}
theorem zsl {x y : Int64} (h : x = y) (kk : W p l e R s m args below meth c H locs cells slots Q (F0 m pc ls (.long y :: rest))) : W p l e R s m args below meth c H locs cells slots Q (F0 m pc ls (.long x :: rest)) := h ▸ kk
end ZS
theorem zm1 {n : Nat} (h : n < 2 ^ 31) (e : nI n = (-1)) : False := by
  have h1 := nI_toInt h
  rw [e] at h1
  have h2 : (-1 : Int32).toInt = -1 := by decide
  omega
-- the processor's cells
abbrev wP (ad : Nat → Nat) (ca : Nat → ClassId) (me nu ro : Nat → Nat) (un li pt : Nat) (st : Int32) (cy pl bk en kc : Nat) : va_W :=
  [(ad 6, .inr (1, [.ref (ad 7), .ref (ad 8), .ref (ad 10), .int (nI pt), .int st, .int (nI cy), .int (nI pl), .int (nI bk), .int (nI en)])), (ad 7, .inl (ca 0, 64, .inl (nF me))),
   (ad 8, .inr (2, [.ref (ad 9), .long (lN un), .long (lN li)])), (ad 9, .inl (ca 1, 7, .inr (.inl (lF nu)))), (ad 10, .inr (3, [.ref (ad 11), .int (nI kc)])), (ad 11, .inl (ca 0, 3, .inl (nF ro)))]
-- a field's part of a number, the number with another part
def pr (u l n : Nat) : Nat := n / u % l
def pu (u l n p : Nat) : Nat := n + p * u - n / u % l * u
def wr (u l : Nat) (n : Nat → Nat) (r p : Nat) : Nat → Nat := uN n r (pu u l (n r) p)
theorem lN_int {n : Nat} : lN n = Int64.ofInt (n : Int) := by
  rw [lN]; exact (Int64.ofInt_eq_ofNat (n := n)).symm
theorem pu_long {u l n p : Nat} : lN n + (lN p - lN (n / u % l)) * lN u = lN (pu u l n p) := by
  have h : n / u % l * u ≤ n + p * u := by
    have h1 : n / u % l ≤ n / u := Nat.mod_le _ _
    have h2 : n / u * u ≤ n := Nat.div_mul_le_self n u
    have h3 : n / u % l * u ≤ n / u * u := Nat.mul_le_mul_right u h1
    omega
  rw [lN_int, lN_int, lN_int, lN_int, ← Int64.ofInt_sub, ← Int64.ofInt_mul, ← Int64.ofInt_add, lN_int]
  congr 1
  unfold pu
  rw [Int.ofNat_sub h]
  push_cast
  rw [Int.sub_mul]
  omega
def fLo (g f : Nat) : Nat := match f with
  | 0 => g
  | 1 => 0
  | 2 => 2
  | 3 => 0
  | 4 => 13
  | 5 => 3
  | 6 => 3
  | _ => 0
def fHi (g f : Nat) : Nat := match f with
  | 0 => g
  | 1 => g
  | 2 => 2
  | 3 => 2
  | 4 => 13
  | 5 => 12
  | 6 => 13
  | _ => 13
def fU (g f : Nat) : Nat := 10 ^ fLo g f
def fL (g f : Nat) : Nat := 10 ^ (fHi g f - fLo g f + 1)
def kOk (x : Int32) (kc : Nat) : Prop := ¬ x < 0 ∧ ¬ nI 16 ≤ x ∧ kc < 3
def shC (ro : Nat → Nat) (kc : Nat) : Nat → Nat := match kc with
  | 2 => uN ro 0 (ro 1)
  | 3 => uN (uN ro 0 (ro 1)) 1 ((uN ro 0 (ro 1)) 2)
  | _ => ro
def sSt (g : Nat) (st : Int32) : Int32 := if g < 12 then st ||| (nI 1 <<< (nI g &&& 31)) else st
def cSt (g : Nat) (st : Int32) : Int32 := if g < 12 then st &&& ((nI 1 <<< (nI g &&& 31)) ^^^ (-1)) else st
def hSt (g : Nat) (st : Int32) : Nat := if g < 12 ∧ (st >>> (nI g &&& 31)) &&& nI 1 = nI 1 then 1 else 0
def rz (l : Nat) (z : Int) : Nat := (z % (l : Int)).toNat
def rc (l : Nat) (z : Int) : Nat := if z < 0 ∨ (l : Int) ≤ z then 1 else 0
theorem zL_sub {a b : Nat} : lN a - lN b = Int64.ofInt ((a : Int) - (b : Nat)) := by rw [lN_int, lN_int, ← Int64.ofInt_sub]
theorem zI_sub {z : Int} {b : Nat} : Int64.ofInt z - lN b = Int64.ofInt (z - (b : Nat)) := by rw [lN_int, ← Int64.ofInt_sub]
theorem zI_int {z : Int} (h1 : -(2 ^ 62) ≤ z) (h2 : z < 2 ^ 62) : (Int64.ofInt z).toInt = z := by
  rw [Int64.toInt_ofInt]
  have e : Int64.size = 18446744073709551616 := rfl
  rw [e]
  exact Int.bmod_eq_of_le (by omega) (by omega)
theorem zc_lt {z : Int} {n : Nat} (h : -(2 ^ 62) ≤ z ∧ z < 2 ^ 62) (hn : n < 2 ^ 62) : Int64.ofInt z < lN n ↔ z < ((n : Nat) : Int) := by
  rw [Int64.lt_iff_toInt_lt, zI_int h.1 h.2, lN_int, zI_int (by omega) (by omega)]
theorem zc_ge {z : Int} {n : Nat} (h : -(2 ^ 62) ≤ z ∧ z < 2 ^ 62) (hn : n < 2 ^ 62) : lN n ≤ Int64.ofInt z ↔ ((n : Nat) : Int) ≤ z := by
  rw [Int64.le_iff_toInt_le, zI_int h.1 h.2, lN_int, zI_int (by omega) (by omega)]
theorem rz_lt {l : Nat} {z : Int} (h : 0 < l) : rz l z < l := by
  unfold rz
  have h1 := Int.emod_nonneg z (show (l : Int) ≠ 0 by omega)
  have h2 := Int.emod_lt_of_pos z (show (0 : Int) < l by omega)
  omega
theorem wr_lt {u l r p : Nat} {n : Nat → Nat} (hn : ∀ j, n j < 10 ^ 14) (hu : 0 < u) (hg : u * l ∣ 10 ^ 14) (hp : p < l) : ∀ j, wr u l n r p j < 10 ^ 14 := by
  intro j
  unfold wr uN
  split
  · have h0 := hn r
    generalize n r = x at h0
    unfold pu
    obtain ⟨k, hk⟩ := hg
    have h1 := Nat.div_add_mod x u
    have h2 := Nat.mod_lt x hu
    have h3 := Nat.div_add_mod (x / u) l
    generalize x / u = a at h1 h3
    generalize x % u = b at h1 h2
    generalize a % l = t at h3
    generalize a / l = c at h3
    subst h3
    have e1 : u * (l * c + t) = u * l * c + t * u := by rw [Nat.mul_add, Nat.mul_assoc, Nat.mul_comm u t]
    have e2 : c < k := by
      refine Nat.lt_of_mul_lt_mul_left (a := u * l) ?_
      rw [← hk]
      omega
    have e3 : u * l * (c + 1) ≤ u * l * k := Nat.mul_le_mul_left _ e2
    have e4 : u * l * (c + 1) = u * l * c + u * l := Nat.mul_succ _ _
    have e5 : (p + 1) * u ≤ l * u := Nat.mul_le_mul_right u hp
    have e6 : (p + 1) * u = p * u + u := Nat.succ_mul p u
    have e7 : l * u = u * l := Nat.mul_comm l u
    omega
  · exact hn j
end
section
abbrev PS : Type := (Nat → Nat) × (Nat → Nat) × (Nat → Nat) × Nat × Nat × Nat × Int32 × Nat × Nat × Nat × Nat × Nat
abbrev wS (ad : Nat → Nat) (ca : Nat → ClassId) (S : PS) : va_W := wP ad ca S.1 S.2.1 S.2.2.1 S.2.2.2.1 S.2.2.2.2.1 S.2.2.2.2.2.1 S.2.2.2.2.2.2.1 S.2.2.2.2.2.2.2.1 S.2.2.2.2.2.2.2.2.1 S.2.2.2.2.2.2.2.2.2.1 S.2.2.2.2.2.2.2.2.2.2.1 S.2.2.2.2.2.2.2.2.2.2.2
def fwZ (op a b c : Nat) : Int := match op with
  | 8 => ((a + b : Nat) : Int)
  | 9 => ((a + c : Nat) : Int)
  | 10 => ((a + c : Nat) : Int)
  | 11 => ((a + 1 : Nat) : Int)
  | 12 => ((c + 1 : Nat) : Int)
  | 13 => ((a : Nat) : Int) - (b : Nat)
  | 14 => ((a : Nat) : Int) - (c : Nat)
  | 15 => ((a : Nat) : Int) - (c : Nat)
  | 16 => ((a : Nat) : Int) - (1 : Nat)
  | 17 => ((c : Nat) : Int) - (1 : Nat)
  | 18 => ((0 : Nat) : Int) - (c : Nat)
  | 19 => (((0 : Nat) : Int) - (c : Nat)) - (1 : Nat)
  | _ => ((c + c : Nat) : Int)
def fwN (op u l : Nat) (n : Nat → Nat) : Nat → Nat := match op with
  | 0 => wr u l n 0 0
  | 1 => wr u l n 1 0
  | 2 => wr u l n 2 0
  | 3 => wr u l (wr u l n 0 (pr u l (n 1))) 1 (pr u l (n 0))
  | 4 => wr u l n 1 (pr u l (n 0))
  | 5 => wr u l (wr u l n 0 (pr u l (n 2))) 2 (pr u l (n 0))
  | 6 => wr u l n 2 (pr u l (n 1))
  | 7 => wr u l (wr u l n 1 (pr u l (n 2))) 2 (pr u l (n 1))
  | 8 => wr u l n 0 (rz l (fwZ 8 (pr u l (n 0)) (pr u l (n 1)) (pr u l (n 2))))
  | 9 => wr u l n 0 (rz l (fwZ 9 (pr u l (n 0)) (pr u l (n 1)) (pr u l (n 2))))
  | 10 => wr u l n 2 (rz l (fwZ 10 (pr u l (n 0)) (pr u l (n 1)) (pr u l (n 2))))
  | 11 => wr u l n 0 (rz l (fwZ 11 (pr u l (n 0)) (pr u l (n 1)) (pr u l (n 2))))
  | 12 => wr u l n 2 (rz l (fwZ 12 (pr u l (n 0)) (pr u l (n 1)) (pr u l (n 2))))
  | 13 => wr u l n 0 (rz l (fwZ 13 (pr u l (n 0)) (pr u l (n 1)) (pr u l (n 2))))
  | 14 => wr u l n 0 (rz l (fwZ 14 (pr u l (n 0)) (pr u l (n 1)) (pr u l (n 2))))
  | 15 => wr u l n 2 (rz l (fwZ 15 (pr u l (n 0)) (pr u l (n 1)) (pr u l (n 2))))
  | 16 => wr u l n 0 (rz l (fwZ 16 (pr u l (n 0)) (pr u l (n 1)) (pr u l (n 2))))
  | 17 => wr u l n 2 (rz l (fwZ 17 (pr u l (n 0)) (pr u l (n 1)) (pr u l (n 2))))
  | 18 => wr u l n 2 (rz l (fwZ 18 (pr u l (n 0)) (pr u l (n 1)) (pr u l (n 2))))
  | 19 => wr u l n 2 (rz l (fwZ 19 (pr u l (n 0)) (pr u l (n 1)) (pr u l (n 2))))
  | 20 => wr u l n 0 (pr u l (n 0) * 10 % l)
  | 21 => wr u l n 0 (pr u l (n 0) / 10)
  | 22 => wr u l n 1 (pr u l (n 1) / 10)
  | 23 => wr u l n 2 (pr u l (n 2) / 10)
  | 24 => n
  | 25 => n
  | 26 => n
  | 27 => n
  | 28 => n
  | 29 => n
  | 30 => wr u l n 2 (rz l (fwZ 30 (pr u l (n 0)) (pr u l (n 1)) (pr u l (n 2))))
  | _ => wr u l n 0 (pr u l (n 2))
def fwC (op u l : Nat) (n : Nat → Nat) : Nat := match op with
  | 8 => rc l (fwZ 8 (pr u l (n 0)) (pr u l (n 1)) (pr u l (n 2)))
  | 9 => rc l (fwZ 9 (pr u l (n 0)) (pr u l (n 1)) (pr u l (n 2)))
  | 10 => rc l (fwZ 10 (pr u l (n 0)) (pr u l (n 1)) (pr u l (n 2)))
  | 11 => rc l (fwZ 11 (pr u l (n 0)) (pr u l (n 1)) (pr u l (n 2)))
  | 12 => rc l (fwZ 12 (pr u l (n 0)) (pr u l (n 1)) (pr u l (n 2)))
  | 13 => rc l (fwZ 13 (pr u l (n 0)) (pr u l (n 1)) (pr u l (n 2)))
  | 14 => rc l (fwZ 14 (pr u l (n 0)) (pr u l (n 1)) (pr u l (n 2)))
  | 15 => rc l (fwZ 15 (pr u l (n 0)) (pr u l (n 1)) (pr u l (n 2)))
  | 16 => rc l (fwZ 16 (pr u l (n 0)) (pr u l (n 1)) (pr u l (n 2)))
  | 17 => rc l (fwZ 17 (pr u l (n 0)) (pr u l (n 1)) (pr u l (n 2)))
  | 18 => rc l (fwZ 18 (pr u l (n 0)) (pr u l (n 1)) (pr u l (n 2)))
  | 19 => rc l (fwZ 19 (pr u l (n 0)) (pr u l (n 1)) (pr u l (n 2)))
  | 24 => if pr u l (n 1) ≤ pr u l (n 0) then 0 else 1
  | 25 => if pr u l (n 2) ≤ pr u l (n 0) then 0 else 1
  | 26 => if pr u l (n 1) = 0 then 0 else 1
  | 27 => if pr u l (n 2) = 0 then 0 else 1
  | 28 => if pr u l (n 0) = 0 then 1 else 0
  | 29 => if pr u l (n 2) = 0 then 1 else 0
  | 30 => rc l (fwZ 30 (pr u l (n 0)) (pr u l (n 1)) (pr u l (n 2)))
  | _ => 0
def cpN (n : Nat → Nat) (a b : Nat) : Nat → Nat := uN n b (n a)
def plS (op g : Nat) (S : PS) : PS := match S with
  | (me, nu, ro, un, li, pt, st, cy, pl, bk, en, kc) => match op with
    | 1 => (me, nu, ro, un, li, g % 14, st, cy, pl, bk, en, kc)
    | 2 => (me, nu, ro, un, li, pt, st, if pt = g then 1 else 0, pl, bk, en, kc)
    | 3 => (me, nu, ro, un, li, pt, sSt g st, cy, pl, bk, en, kc)
    | 4 => (me, nu, ro, un, li, pt, cSt g st, cy, pl, bk, en, kc)
    | 5 => (me, nu, ro, un, li, pt, st, hSt g st, pl, bk, en, kc)
    | 6 => (me, wr (fU pt 0) (fL pt 0) nu 2 (g % 10), ro, fU pt 0, fL pt 0, (pt + 14 - 1) % 14, st, cy, pl, bk, en, kc)
    | 7 => (me, nu, ro, un, li, (pt + 1) % 14, st, cy, pl, bk, en, kc)
    | 8 => (me, nu, ro, un, li, (pt + 14 - 1) % 14, st, cy, pl, bk, en, kc)
    | 9 => (me, cpN (cpN (cpN nu 4 5) 3 4) 2 3, ro, un, li, pt, st, cy, pl, bk, en, kc)
    | 10 => (me, cpN (cpN (cpN nu 3 0) 4 3) 5 4, ro, un, li, pt, st, cy, pl, bk, en, kc)
    | 11 => (me, nu, ro, un, li, pt, st, cy, bk, bk, en, kc)
    | 12 => if kc = 0 then (me, nu, ro, un, li, pt, st, cy, (pl + 64 - 1) % 64, bk, 1, kc) else (me, nu, shC ro kc, un, li, pt, st, cy, ro 0 * 8 % 64, bk, en, kc - 1)
    | 13 => (me, nu, ro, un, li, pt, st, cy, pl, bk, 1, kc)
    | 14 => (me, uN (cpN nu 6 2) 6 (nu 2), ro, un, li, pt, st, cy, pl, bk, en, kc)
    | 15 => (me, cpN (cpN (cpN (cpN nu 2 0) 3 2) 4 3) 5 4, ro, un, li, pt, st, cy, pl, bk, en, kc)
    | _ => (me, nu, ro, un, li, pt, st, cy, pl, bk, en, kc)
def dwS (wd : Nat) (S : PS) : PS := match S with
  | (me, nu, ro, un, li, pt, st, cy, pl, bk, en, kc) => match wd % 4 with
    | 0 => plS (wd / 4 % 16) (wd / 64) (me, nu, ro, un, li, pt, st, 0, (pl + 1) % 64, bk, en, kc)
    | 1 => (me, nu, ro, un, li, pt, st, 0, wd / 4 % 64, (pl + 1) % 64, en, kc)
    | 2 => (me, fwN (wd / 32) (fU pt (wd / 4 % 8)) (fL pt (wd / 4 % 8)) nu, ro, fU pt (wd / 4 % 8), fL pt (wd / 4 % 8), pt, st, fwC (wd / 32) (fU pt (wd / 4 % 8)) (fL pt (wd / 4 % 8)) nu, (pl + 1) % 64, bk, en, kc)
    | _ => (me, nu, ro, un, li, pt, st, 0, if cy = 0 then wd / 4 % 64 else (pl + 1) % 64, bk, en, kc)
theorem fLo_le {g f : Nat} (hg : g < 14) : fLo g f ≤ fHi g f ∧ fHi g f ≤ 13 := by
  unfold fLo fHi
  split <;> simp <;> omega
theorem fU_pos (g f : Nat) : 0 < fU g f := Nat.pow_pos (by decide)
theorem fL_pos (g f : Nat) : 0 < fL g f := Nat.pow_pos (by decide)
theorem fU_le {g f : Nat} (hg : g < 14) : fU g f ≤ 10 ^ 14 := Nat.pow_le_pow_right (by decide) (by have := fLo_le (f := f) hg; omega)
theorem fL_le {g f : Nat} (hg : g < 14) : fL g f ≤ 10 ^ 14 := Nat.pow_le_pow_right (by decide) (by have := fLo_le (f := f) hg; omega)
theorem fUL {g f : Nat} (hg : g < 14) : fU g f * fL g f ∣ 10 ^ 14 := by
  unfold fU fL
  rw [← Nat.pow_add]
  exact Nat.pow_dvd_pow 10 (by have := fLo_le (f := f) hg; omega)
-- Math.floorMod
theorem sg (x : Int64) : x < 0 ↔ x.toBitVec.msb = true := by
  show (x.toBitVec.slt 0#64 = true) ↔ _
  rw [BitVec.slt_zero_eq_msb]
theorem fm_sg {z : Int} {n : Nat} (h : -(2 ^ 62) ≤ z ∧ z < 2 ^ 62) (hn : n < 2 ^ 62) : lN 0 ≤ Int64.ofInt z ^^^ lN n ↔ 0 ≤ z := by
  have h1 : ¬ (Int64.ofInt z ^^^ lN n) < 0 ↔ ¬ z < 0 := by
    refine not_congr ?_
    rw [sg, Int64.toBitVec_xor, BitVec.msb_xor]
    have e1 : (lN n).toBitVec.msb = false := by
      cases hm : (lN n).toBitVec.msb
      · rfl
      · have h2 := (sg _).mpr hm
        rw [Int64.lt_iff_toInt_lt, pk_lT (by omega)] at h2
        simp at h2
        omega
    rw [e1, Bool.xor_false, ← sg, Int64.lt_iff_toInt_lt, zI_int h.1 h.2]
    simp
  have h3 : lN 0 ≤ Int64.ofInt z ^^^ lN n ↔ ¬ (Int64.ofInt z ^^^ lN n) < 0 := by
    rw [show lN 0 = (0 : Int64) from rfl]
    exact (Int64.not_lt).symm
  rw [h3, h1]
  omega
theorem fm_rem {z : Int} {n : Nat} (h : -(2 ^ 62) ≤ z ∧ z < 2 ^ 62) (hn : n < 2 ^ 62) : Int64.ofInt z - Int64.ofInt z / lN n * lN n = Int64.ofInt (z.tmod n) := by
  have e : Int64.ofInt z / lN n = Int64.ofInt (z.tdiv n) := by
    rw [lN_int]
    have hm : Int64.minValue.toInt = -9223372036854775808 := by decide
    have hM : Int64.maxValue.toInt = 9223372036854775807 := by decide
    exact (Int64.ofInt_tdiv (by rw [hm]; omega) (by rw [hM]; omega) (by rw [hm]; omega) (by rw [hM]; omega)).symm
  rw [e, lN_int, ← Int64.ofInt_mul, ← Int64.ofInt_sub]
  congr 1
  have := Int.tmod_add_mul_tdiv z n
  rw [Int.mul_comm] at this
  omega
theorem zc_eq {z : Int} {n : Nat} (h : -(2 ^ 62) ≤ z ∧ z < 2 ^ 62) (hn : n < 2 ^ 62) : Int64.ofInt z = lN n ↔ z = ((n : Nat) : Int) := by
  rw [← Int64.toInt_inj, zI_int h.1 h.2, lN_int, zI_int (by omega) (by omega)]
theorem fm_bd {z : Int} {n : Nat} (h : -(2 ^ 62) ≤ z ∧ z < 2 ^ 62) (hn0 : 0 < n) (hn : n < 2 ^ 62) : -(2 ^ 62) ≤ z.tmod n ∧ z.tmod n < 2 ^ 62 := by
  have h1 := Int.tmod_lt_of_pos z (show (0 : Int) < n by omega)
  have h2 : -(n : Int) < z.tmod n := by
    have := Int.tmod_lt_of_pos (-z) (show (0 : Int) < n by omega)
    rw [Int.neg_tmod] at this
    omega
  omega
theorem fm_p {z : Int} {n : Nat} (hn : 0 < n) (h : 0 ≤ z) : Int64.ofInt (z.tmod n) = lN (rz n z) := by
  rw [lN_int]
  congr 1
  unfold rz
  rw [Int.tmod_eq_emod_of_nonneg h]
  exact (Int.toNat_of_nonneg (Int.emod_nonneg z (by omega))).symm
theorem fm_q {z : Int} {n : Nat} (hn : 0 < n) (h : z.tmod n = ((0 : Nat) : Int)) : Int64.ofInt (z.tmod n) = lN (rz n z) := by
  rw [h, lN_int]
  congr 1
  unfold rz
  have : z % (n : Int) = 0 := Int.emod_eq_zero_of_dvd (Int.dvd_of_tmod_eq_zero h)
  rw [this]
  rfl
theorem fm_r {z : Int} {n : Nat} (hn : 0 < n) (hn1 : n < 2 ^ 62) (hz : ¬ 0 ≤ z) (h : ¬ z.tmod n = ((0 : Nat) : Int)) : Int64.ofInt (z.tmod n) + lN n = lN (rz n z) := by
  rw [lN_int, lN_int, ← Int64.ofInt_add]
  congr 1
  unfold rz
  have h1 := Int.tmod_add_mul_tdiv z n
  have h2 := Int.tmod_lt_of_pos (-z) (show (0 : Int) < n by omega)
  rw [Int.neg_tmod] at h2
  have h3 : z.tmod n ≤ 0 := by
    have := Int.tmod_nonneg (a := -z) (n : Int) (by omega)
    rw [Int.neg_tmod] at this
    omega
  have h4 : z % (n : Int) = z.tmod n + n := by
    have e : z = (z.tmod n + n) + n * (z.tdiv n - 1) := by
      rw [Int.mul_sub]
      omega
    have h5 : (z.tmod n + n) % (n : Int) = z.tmod n + n := Int.emod_eq_of_lt (by omega) (by omega)
    have h6 : z % (n : Int) = ((z.tmod n + n) + n * (z.tdiv n - 1)) % (n : Int) := by rw [← e]
    rw [h6, Int.add_mul_emod_self_left]
    exact h5
  rw [h4]
  exact (Int.toNat_of_nonneg (by omega)).symm
end
section
set_option maxHeartbeats 4000000 in
set_option maxRecDepth 100000 in
theorem m_Re_part (l : Launch) (D : va_G) (ca : Nat → ClassId) (k : Nat → Nat) (sz : Nat) (ad : Nat → Nat) (me nu ro : Nat → Nat) (un li pt : Nat) (st : Int32) (cy pl bk en kc : Nat) (r : Nat) (hr7 : r < 7) (hn : ∀ j, nu j < 10 ^ 14) (hu : 0 < un) (hu2 : un ≤ 10 ^ 14) (hl0 : 0 < li) (hl2 : li ≤ 10 ^ 14) : Met l y_Re_part (zw y_Re_part c_Re_part 2 (some .long)) { frames := 0, cells := 0, slots := 0, locals := 0 } (va_Pc [.ref (ad 8), .int (nI r)] (zPre D (zty ca) k (wP ad ca me nu ro un li pt st cy pl bk en kc) sz)) (va_Ql (fun x w => x = lN (pr un li (nu r)) ∧ w = wP ad ca me nu ro un li pt st cy pl bk en kc) (zB D (zty ca) (wP ad ca me nu ro un li pt st cy pl bk en kc) sz) (va_A (wP ad ca me nu ro un li pt st cy pl bk en kc) sz)) 0 0 (va_A (wP ad ca me nu ro un li pt st cy pl bk en kc) sz) := by
  refine zOf (own := "DigitChip$Registers") (by decide +kernel) rfl (Nat.le_of_ble_eq_true rfl) ?_
  intro p e s m below meth c A ls C0 hr hnm hAe hsz hl hP hD hS
  have hl : lv_has ls 2 [(0, .ref (ad 8)), (1, .int (nI r))] := hl
  obtain ⟨hx, hb, hml, hown, ht, hK, hX, hA, hlk⟩ := id C0
  have hb0 := hn r
  have hb1 : nu r / un ≤ nu r := Nat.div_le_self _ _
  refine lv_aload_n hx hb d_Re_part_0 rfl (lv_at hl 0 rfl) ?_
  refine va_get (D := D) (ci := 2) (v := .ref (ad 9)) (C := RRe) (T := TRe) (N := 3) hx hb ht inRe hown hK hP 2 rfl rfl 0 (by decide) (ht _ q86) (fun _ h9 => h9) rfl d_Re_part_1 ?_
  refine lv_iload_n hx hb d_Re_part_4 rfl (lv_at hl 1 rfl) ?_
  refine va_lald hx hb hK hP 3 1 rfl rfl (vp_in_nI (n := r) (by omega) (by decide)) d_Re_part_5 ?_
  refine ztl (y := lN (nu r)) (lF_at (by omega)) ?_
  refine lv_aload_n hx hb d_Re_part_6 rfl (lv_at hl 0 rfl) ?_
  refine va_get (D := D) (ci := 2) (v := .long (lN un)) (C := RRe) (T := TRe) (N := 3) hx hb ht inRe hown hK hP 2 rfl rfl 1 (by decide) (ht _ q89) (fun _ h9 => h9) rfl d_Re_part_7 ?_
  refine lv_ldiv hx hb d_Re_part_10 (zlne (by omega) (by omega)) ?_
  refine ztl (y := lN ((nu r) / un)) (pk_lDiv (by omega) (by omega) (by omega)) ?_
  refine lv_aload_n hx hb d_Re_part_11 rfl (lv_at hl 0 rfl) ?_
  refine va_get (D := D) (ci := 2) (v := .long (lN li)) (C := RRe) (T := TRe) (N := 3) hx hb ht inRe hown hK hP 2 rfl rfl 2 (by decide) (ht _ q90) (fun _ h9 => h9) rfl d_Re_part_12 ?_
  refine lv_lrem hx hb d_Re_part_15 (zlne (by omega) (by omega)) ?_
  refine ztl (y := lN (((nu r) / un) % li)) (pk_lRem (by omega) (by omega) (by omega)) ?_
  exact zret_l C0 hr hAe hP hD hS ⟨rfl, rfl⟩ d_Re_part_16
set_option maxHeartbeats 4000000 in
set_option maxRecDepth 100000 in
theorem m_Re_putPart (l : Launch) (D : va_G) (ca : Nat → ClassId) (k : Nat → Nat) (sz : Nat) (ad : Nat → Nat) (me nu ro : Nat → Nat) (un li pt : Nat) (st : Int32) (cy pl bk en kc : Nat) (r v : Nat) (hr7 : r < 7) (hn : ∀ j, nu j < 10 ^ 14) (hu : 0 < un) (hu2 : un ≤ 10 ^ 14) (hl0 : 0 < li) (hl2 : li ≤ 10 ^ 14) : Met l y_Re_putPart (zw y_Re_putPart c_Re_putPart 4 none) { frames := 1, cells := 0, slots := 0, locals := 21 } (va_Pc [.ref (ad 8), .int (nI r), .long (lN v)] (zPre D (zty ca) k (wP ad ca me nu ro un li pt st cy pl bk en kc) sz)) (va_Qv (fun w => w = wP ad ca me (wr un li nu r v) ro un li pt st cy pl bk en kc) (zB D (zty ca) (wP ad ca me nu ro un li pt st cy pl bk en kc) sz) (va_A (wP ad ca me nu ro un li pt st cy pl bk en kc) sz)) 0 0 (va_A (wP ad ca me nu ro un li pt st cy pl bk en kc) sz) := by
  refine zOf (own := "DigitChip$Registers") (by decide +kernel) rfl (Nat.le_of_ble_eq_true rfl) ?_
  intro p e s m below meth c A ls C0 hr hnm hAe hsz hl hP hD hS
  have hl : lv_has ls 4 [(0, .ref (ad 8)), (1, .int (nI r)), (2, .long (lN v))] := hl
  obtain ⟨hx, hb, hml, hown, ht, hK, hX, hA, hlk⟩ := id C0
  refine lv_aload_n hx hb d_Re_putPart_0 rfl (lv_at hl 0 rfl) ?_
  refine va_get (D := D) (ci := 2) (v := .ref (ad 9)) (C := RRe) (T := TRe) (N := 3) hx hb ht inRe hown hK hP 2 rfl rfl 0 (by decide) (ht _ q86) (fun _ h9 => h9) rfl d_Re_putPart_1 ?_
  refine lv_iload_n hx hb d_Re_putPart_4 rfl (lv_at hl 1 rfl) ?_
  refine lv_dup2_11 hx hb d_Re_putPart_5 rfl rfl ?_
  refine va_lald hx hb hK hP 3 1 rfl rfl (vp_in_nI (n := r) (by omega) (by decide)) d_Re_putPart_6 ?_
  refine ztl (y := lN (nu r)) (lF_at (by omega)) ?_
  refine lv_lload_n hx hb d_Re_putPart_7 rfl (lv_at hl 2 rfl) ?_
  refine lv_aload_n hx hb d_Re_putPart_8 rfl (lv_at hl 0 rfl) ?_
  refine lv_iload_n hx hb d_Re_putPart_9 rfl (lv_at hl 1 rfl) ?_
  refine zgo_l (wr := []) C0 (zrunV (na := 1) (As := [.int (nI r)]) (rest := [.long (lN v), .long (lN (nu r)), .int (nI r), .ref (ad 9)]) C0 hP hD hS [0, 1, 2, 3, 4, 5] rfl rfl (m_Re_part l D ca k s.heap.size ad me nu ro un li pt st cy pl bk en kc r (by omega) hn hu hu2 hl0 hl2) (zg_V q494 q495 q496 q5 q497) (by decide +kernel) rfl rfl ⟨by decide, by decide⟩ 2 rfl rfl rfl hl.1 rfl (Nat.le_of_ble_eq_true rfl) d_Re_putPart_10 ⟨Nat.zero_le _, Nat.zero_le _⟩) hP hD hS [0, 1, 2, 3, 4, 5] [] rfl rfl (by decide) (by decide) (fun r1 w1 H locs hw hP hD hS => ?_)
  obtain ⟨rfl, rfl⟩ := hw
  have hP : va_P D vCl (wP ad ca me nu ro un li pt st cy pl bk en kc) H := hP
  have hD : va_D A (wP ad ca me nu ro un li pt st cy pl bk en kc) := hD
  refine lv_lsub hx hb d_Re_putPart_13 ?_
  refine lv_aload_n hx hb d_Re_putPart_14 rfl (lv_at hl 0 rfl) ?_
  refine va_get (D := D) (ci := 2) (v := .long (lN un)) (C := RRe) (T := TRe) (N := 3) hx hb ht inRe hown hK hP 2 rfl rfl 1 (by decide) (ht _ q89) (fun _ h9 => h9) rfl d_Re_putPart_15 ?_
  refine lv_lmul hx hb d_Re_putPart_18 ?_
  refine lv_ladd hx hb d_Re_putPart_19 ?_
  refine zsl (y := lN (pu un li (nu r) v)) pu_long ?_
  refine va_last hx hb hK hP hD hS 3 1 rfl rfl (vp_in_nI (n := r) (by omega) (by decide)) d_Re_putPart_20 (fun H locs hP hD hS => ?_)
  rw [lF_up (by omega)] at hP hD
  have hP : va_P D vCl (wP ad ca me (uN nu r (pu un li (nu r) v)) ro un li pt st cy pl bk en kc) H := hP
  have hD : va_D A (wP ad ca me (uN nu r (pu un li (nu r) v)) ro un li pt st cy pl bk en kc) := hD
  exact zret_v C0 hr hAe hP hD hS rfl d_Re_putPart_21
set_option maxHeartbeats 4000000 in
set_option maxRecDepth 100000 in
theorem m_Re_digit (l : Launch) (D : va_G) (ca : Nat → ClassId) (k : Nat → Nat) (sz : Nat) (ad : Nat → Nat) (me nu ro : Nat → Nat) (un li pt : Nat) (st : Int32) (cy pl bk en kc : Nat) (r q : Nat) (hr7 : r < 7) (hq : q < 15) (hn : ∀ j, nu j < 10 ^ 14) : Met l y_Re_digit (zw y_Re_digit c_Re_digit 3 (some .int)) { frames := 0, cells := 0, slots := 0, locals := 0 } (va_Pc [.ref (ad 8), .int (nI r), .int (nI q)] (zPre D (zty ca) k (wP ad ca me nu ro un li pt st cy pl bk en kc) sz)) (va_Qi (fun x w => x = nI (nu r / 10 ^ q % 10) ∧ w = wP ad ca me nu ro un li pt st cy pl bk en kc) (zB D (zty ca) (wP ad ca me nu ro un li pt st cy pl bk en kc) sz) (va_A (wP ad ca me nu ro un li pt st cy pl bk en kc) sz)) 0 0 (va_A (wP ad ca me nu ro un li pt st cy pl bk en kc) sz) := by
  refine zOf (own := "DigitChip$Registers") (by decide +kernel) rfl (Nat.le_of_ble_eq_true rfl) ?_
  intro p e s m below meth c A ls C0 hr hnm hAe hsz hl hP hD hS
  have hl : lv_has ls 3 [(0, .ref (ad 8)), (1, .int (nI r)), (2, .int (nI q))] := hl
  obtain ⟨hx, hb, hml, hown, ht, hK, hX, hA, hlk⟩ := id C0
  have hb0 := hn r
  have hb1 : nu r / 10 ^ q ≤ nu r := Nat.div_le_self _ _
  have hb2 : 10 ^ q ≤ 10 ^ 14 := Nat.pow_le_pow_right (by decide) (by omega)
  have hb3 : 0 < 10 ^ q := Nat.pow_pos (by decide)
  refine lv_aload_n hx hb d_Re_digit_0 rfl (lv_at hl 0 rfl) ?_
  refine va_get (D := D) (ci := 2) (v := .ref (ad 9)) (C := RRe) (T := TRe) (N := 3) hx hb ht inRe hown hK hP 2 rfl rfl 0 (by decide) (ht _ q86) (fun _ h9 => h9) rfl d_Re_digit_1 ?_
  refine lv_iload_n hx hb d_Re_digit_4 rfl (lv_at hl 1 rfl) ?_
  refine va_lald hx hb hK hP 3 1 rfl rfl (vp_in_nI (n := r) (by omega) (by decide)) d_Re_digit_5 ?_
  refine ztl (y := lN (nu r)) (lF_at (by omega)) ?_
  refine va_gets hx hb hX.1 hS hown (ht _ q226) (fun _ h9 => h9) d_Re_digit_6 ?_
  refine lv_iload_n hx hb d_Re_digit_9 rfl (lv_at hl 2 rfl) ?_
  refine va_tl hx hb hX.2.1 hS (vp_in_nI (n := q) (by omega) (by decide)) (v := .long (lN (10 ^ q))) (zten (by omega)) d_Re_digit_10 ?_
  refine lv_ldiv hx hb d_Re_digit_11 (zlne (by omega) (by omega)) ?_
  refine ztl (y := lN ((nu r) / (10 ^ q))) (pk_lDiv (by omega) (by omega) (by omega)) ?_
  refine lv_ldc2 hx hb hown (ht _ q227) d_Re_digit_12 ?_
  refine ztl (y := lN 10) (by decide) ?_
  refine lv_lrem hx hb d_Re_digit_15 (zlne (by omega) (by omega)) ?_
  refine ztl (y := lN (((nu r) / (10 ^ q)) % 10)) (pk_lRem (by omega) (by omega) (by omega)) ?_
  refine lv_l2i (v := nI (((nu r) / (10 ^ q)) % 10)) hx hb d_Re_digit_16 (lN_i _) ?_
  exact zret_i C0 hr hAe hP hD hS ⟨rfl, rfl⟩ d_Re_digit_17
set_option maxHeartbeats 4000000 in
set_option maxRecDepth 100000 in
theorem m_Re_chooseDigits (l : Launch) (D : va_G) (ca : Nat → ClassId) (k : Nat → Nat) (sz : Nat) (ad : Nat → Nat) (me nu ro : Nat → Nat) (un li pt : Nat) (st : Int32) (cy pl bk en kc : Nat) (x0 x1 : Nat) (hx0 : x0 ≤ x1) (hx1 : x1 ≤ 13) : Met l y_Re_chooseDigits (zw y_Re_chooseDigits c_Re_chooseDigits 3 none) { frames := 0, cells := 0, slots := 0, locals := 0 } (va_Pc [.ref (ad 8), .int (nI x0), .int (nI x1)] (zPre D (zty ca) k (wP ad ca me nu ro un li pt st cy pl bk en kc) sz)) (va_Qv (fun w => w = wP ad ca me nu ro (10 ^ x0) (10 ^ (x1 - x0 + 1)) pt st cy pl bk en kc) (zB D (zty ca) (wP ad ca me nu ro un li pt st cy pl bk en kc) sz) (va_A (wP ad ca me nu ro un li pt st cy pl bk en kc) sz)) 0 0 (va_A (wP ad ca me nu ro un li pt st cy pl bk en kc) sz) := by
  refine zOf (own := "DigitChip$Registers") (by decide +kernel) rfl (Nat.le_of_ble_eq_true rfl) ?_
  intro p e s m below meth c A ls C0 hr hnm hAe hsz hl hP hD hS
  have hl : lv_has ls 3 [(0, .ref (ad 8)), (1, .int (nI x0)), (2, .int (nI x1))] := hl
  obtain ⟨hx, hb, hml, hown, ht, hK, hX, hA, hlk⟩ := id C0
  refine lv_aload_n hx hb d_Re_chooseDigits_0 rfl (lv_at hl 0 rfl) ?_
  refine va_gets hx hb hX.1 hS hown (ht _ q226) (fun _ h9 => h9) d_Re_chooseDigits_1 ?_
  refine lv_iload_n hx hb d_Re_chooseDigits_4 rfl (lv_at hl 1 rfl) ?_
  refine va_tl hx hb hX.2.1 hS (vp_in_nI (n := x0) (by omega) (by decide)) (v := .long (lN (10 ^ x0))) (zten (by omega)) d_Re_chooseDigits_5 ?_
  refine va_put (D := D) (ci := 2) (v := .long (lN (10 ^ x0))) (ty := .long) (C := RRe) (T := TRe) (N := 3) hx hb ht inRe tyRe tyRe_ok nmRe hown hK hP hD hS 2 rfl rfl 1 (by decide) (ht _ q89) (fun _ h9 => h9) rfl (by decide +kernel) rfl rfl (Nat.le_of_ble_eq_true rfl) d_Re_chooseDigits_6 (fun H locs hP hD hS => ?_)
  have hP : va_P D vCl (wP ad ca me nu ro (10 ^ x0) li pt st cy pl bk en kc) H := hP
  have hD : va_D A (wP ad ca me nu ro (10 ^ x0) li pt st cy pl bk en kc) := hD
  refine lv_aload_n hx hb d_Re_chooseDigits_9 rfl (lv_at hl 0 rfl) ?_
  refine va_gets hx hb hX.1 hS hown (ht _ q226) (fun _ h9 => h9) d_Re_chooseDigits_10 ?_
  refine lv_iload_n hx hb d_Re_chooseDigits_13 rfl (lv_at hl 2 rfl) ?_
  refine lv_iload_n hx hb d_Re_chooseDigits_14 rfl (lv_at hl 1 rfl) ?_
  refine lv_isub hx hb d_Re_chooseDigits_15 ?_
  refine zti (y := nI (x1 - x0)) (pk_sub (by omega)) ?_
  refine lv_iconst (v := nI 1) hx hb d_Re_chooseDigits_16 (by decide) ?_
  refine lv_iadd hx hb d_Re_chooseDigits_17 ?_
  refine zti (y := nI ((x1 - x0) + 1)) (nI_add _ _) ?_
  refine va_tl hx hb hX.2.1 hS (vp_in_nI (n := (x1 - x0) + 1) (by omega) (by decide)) (v := .long (lN (10 ^ ((x1 - x0) + 1)))) (zten (by omega)) d_Re_chooseDigits_18 ?_
  refine va_put (D := D) (ci := 2) (v := .long (lN (10 ^ ((x1 - x0) + 1)))) (ty := .long) (C := RRe) (T := TRe) (N := 3) hx hb ht inRe tyRe tyRe_ok nmRe hown hK hP hD hS 2 rfl rfl 2 (by decide) (ht _ q90) (fun _ h9 => h9) rfl (by decide +kernel) rfl rfl (Nat.le_of_ble_eq_true rfl) d_Re_chooseDigits_19 (fun H locs hP hD hS => ?_)
  have hP : va_P D vCl (wP ad ca me nu ro (10 ^ x0) (10 ^ ((x1 - x0) + 1)) pt st cy pl bk en kc) H := hP
  have hD : va_D A (wP ad ca me nu ro (10 ^ x0) (10 ^ ((x1 - x0) + 1)) pt st cy pl bk en kc) := hD
  exact zret_v C0 hr hAe hP hD hS rfl d_Re_chooseDigits_22
set_option maxHeartbeats 4000000 in
set_option maxRecDepth 100000 in
theorem m_Re_chooseField (l : Launch) (D : va_G) (ca : Nat → ClassId) (k : Nat → Nat) (sz : Nat) (ad : Nat → Nat) (me nu ro : Nat → Nat) (un li pt : Nat) (st : Int32) (cy pl bk en kc : Nat) (f g : Nat) (hf : f < 8) (hg : g < 14) : Met l y_Re_chooseField (zw y_Re_chooseField c_Re_chooseField 3 none) { frames := 1, cells := 0, slots := 0, locals := 22 } (va_Pc [.ref (ad 8), .int (nI f), .int (nI g)] (zPre D (zty ca) k (wP ad ca me nu ro un li pt st cy pl bk en kc) sz)) (va_Qv (fun w => w = wP ad ca me nu ro (fU g f) (fL g f) pt st cy pl bk en kc) (zB D (zty ca) (wP ad ca me nu ro un li pt st cy pl bk en kc) sz) (va_A (wP ad ca me nu ro un li pt st cy pl bk en kc) sz)) 0 0 (va_A (wP ad ca me nu ro un li pt st cy pl bk en kc) sz) := by
  refine zOf (own := "DigitChip$Registers") (by decide +kernel) rfl (Nat.le_of_ble_eq_true rfl) ?_
  intro p e s m below meth c A ls C0 hr hnm hAe hsz hl hP hD hS
  have hl : lv_has ls 3 [(0, .ref (ad 8)), (1, .int (nI f)), (2, .int (nI g))] := hl
  obtain ⟨hx, hb, hml, hown, ht, hK, hX, hA, hlk⟩ := id C0
  rcases (show f = 0 ∨ f = 1 ∨ f = 2 ∨ f = 3 ∨ f = 4 ∨ f = 5 ∨ f = 6 ∨ f = 7 from by omega) with rfl | rfl | rfl | rfl | rfl | rfl | rfl | rfl
  · skip
    refine lv_iload_n hx hb d_Re_chooseField_0 rfl (lv_at hl 1 rfl) ?_
    refine lv_tableIn (off := 43) (tgt := 44) hx hb d_Re_chooseField_1 (by decide) (by decide) (by decide) (by decide) ?_
    refine lv_aload_n hx hb d_Re_chooseField_44 rfl (lv_at hl 0 rfl) ?_
    refine lv_iload_n hx hb d_Re_chooseField_45 rfl (lv_at hl 2 rfl) ?_
    refine lv_iload_n hx hb d_Re_chooseField_46 rfl (lv_at hl 2 rfl) ?_
    refine zgo_v (wr := []) C0 (zrunV (na := 2) (As := [.int (nI g), .int (nI g)]) (rest := []) C0 hP hD hS [0, 1, 2, 3, 4, 5] rfl rfl (m_Re_chooseDigits l D ca k s.heap.size ad me nu ro un li pt st cy pl bk en kc g g (by omega) (by omega)) (zg_V q486 q488 q815 q5 q489) (by decide +kernel) rfl rfl ⟨by decide, by decide⟩ 2 rfl rfl rfl hl.1 rfl (Nat.le_of_ble_eq_true rfl) d_Re_chooseField_47 ⟨Nat.zero_le _, Nat.zero_le _⟩) hP hD hS [0, 1, 2, 3, 4, 5] [] rfl rfl (by decide) (by decide) (fun w1 H locs hw hP hD hS => ?_)
    obtain rfl := hw
    have hP : va_P D vCl (wP ad ca me nu ro (10 ^ g) (10 ^ (g - g + 1)) pt st cy pl bk en kc) H := hP
    have hD : va_D A (wP ad ca me nu ro (10 ^ g) (10 ^ (g - g + 1)) pt st cy pl bk en kc) := hD
    refine lv_goto (tgt := 118) hx hb d_Re_chooseField_50 (by decide) ?_
    exact zret_v C0 hr hAe hP hD hS rfl d_Re_chooseField_118
  · skip
    refine lv_iload_n hx hb d_Re_chooseField_0 rfl (lv_at hl 1 rfl) ?_
    refine lv_tableIn (off := 52) (tgt := 53) hx hb d_Re_chooseField_1 (by decide) (by decide) (by decide) (by decide) ?_
    refine lv_aload_n hx hb d_Re_chooseField_53 rfl (lv_at hl 0 rfl) ?_
    refine lv_iconst (v := nI 0) hx hb d_Re_chooseField_54 (by decide) ?_
    refine lv_iload_n hx hb d_Re_chooseField_55 rfl (lv_at hl 2 rfl) ?_
    refine zgo_v (wr := []) C0 (zrunV (na := 2) (As := [.int (nI 0), .int (nI g)]) (rest := []) C0 hP hD hS [0, 1, 2, 3, 4, 5] rfl rfl (m_Re_chooseDigits l D ca k s.heap.size ad me nu ro un li pt st cy pl bk en kc 0 g (by omega) (by omega)) (zg_V q486 q488 q815 q5 q489) (by decide +kernel) rfl rfl ⟨by decide, by decide⟩ 2 rfl rfl rfl hl.1 rfl (Nat.le_of_ble_eq_true rfl) d_Re_chooseField_56 ⟨Nat.zero_le _, Nat.zero_le _⟩) hP hD hS [0, 1, 2, 3, 4, 5] [] rfl rfl (by decide) (by decide) (fun w1 H locs hw hP hD hS => ?_)
    obtain rfl := hw
    have hP : va_P D vCl (wP ad ca me nu ro (10 ^ 0) (10 ^ (g - 0 + 1)) pt st cy pl bk en kc) H := hP
    have hD : va_D A (wP ad ca me nu ro (10 ^ 0) (10 ^ (g - 0 + 1)) pt st cy pl bk en kc) := hD
    refine lv_goto (tgt := 118) hx hb d_Re_chooseField_59 (by decide) ?_
    exact zret_v C0 hr hAe hP hD hS rfl d_Re_chooseField_118
  · skip
    refine lv_iload_n hx hb d_Re_chooseField_0 rfl (lv_at hl 1 rfl) ?_
    refine lv_tableIn (off := 61) (tgt := 62) hx hb d_Re_chooseField_1 (by decide) (by decide) (by decide) (by decide) ?_
    refine lv_aload_n hx hb d_Re_chooseField_62 rfl (lv_at hl 0 rfl) ?_
    refine lv_iconst (v := nI 2) hx hb d_Re_chooseField_63 (by decide) ?_
    refine lv_iconst (v := nI 2) hx hb d_Re_chooseField_64 (by decide) ?_
    refine zgo_v (wr := []) C0 (zrunV (na := 2) (As := [.int (nI 2), .int (nI 2)]) (rest := []) C0 hP hD hS [0, 1, 2, 3, 4, 5] rfl rfl (m_Re_chooseDigits l D ca k s.heap.size ad me nu ro un li pt st cy pl bk en kc 2 2 (by omega) (by omega)) (zg_V q486 q488 q815 q5 q489) (by decide +kernel) rfl rfl ⟨by decide, by decide⟩ 2 rfl rfl rfl hl.1 rfl (Nat.le_of_ble_eq_true rfl) d_Re_chooseField_65 ⟨Nat.zero_le _, Nat.zero_le _⟩) hP hD hS [0, 1, 2, 3, 4, 5] [] rfl rfl (by decide) (by decide) (fun w1 H locs hw hP hD hS => ?_)
    obtain rfl := hw
    have hP : va_P D vCl (wP ad ca me nu ro (10 ^ 2) (10 ^ (2 - 2 + 1)) pt st cy pl bk en kc) H := hP
    have hD : va_D A (wP ad ca me nu ro (10 ^ 2) (10 ^ (2 - 2 + 1)) pt st cy pl bk en kc) := hD
    refine lv_goto (tgt := 118) hx hb d_Re_chooseField_68 (by decide) ?_
    exact zret_v C0 hr hAe hP hD hS rfl d_Re_chooseField_118
  · skip
    refine lv_iload_n hx hb d_Re_chooseField_0 rfl (lv_at hl 1 rfl) ?_
    refine lv_tableIn (off := 70) (tgt := 71) hx hb d_Re_chooseField_1 (by decide) (by decide) (by decide) (by decide) ?_
    refine lv_aload_n hx hb d_Re_chooseField_71 rfl (lv_at hl 0 rfl) ?_
    refine lv_iconst (v := nI 0) hx hb d_Re_chooseField_72 (by decide) ?_
    refine lv_iconst (v := nI 2) hx hb d_Re_chooseField_73 (by decide) ?_
    refine zgo_v (wr := []) C0 (zrunV (na := 2) (As := [.int (nI 0), .int (nI 2)]) (rest := []) C0 hP hD hS [0, 1, 2, 3, 4, 5] rfl rfl (m_Re_chooseDigits l D ca k s.heap.size ad me nu ro un li pt st cy pl bk en kc 0 2 (by omega) (by omega)) (zg_V q486 q488 q815 q5 q489) (by decide +kernel) rfl rfl ⟨by decide, by decide⟩ 2 rfl rfl rfl hl.1 rfl (Nat.le_of_ble_eq_true rfl) d_Re_chooseField_74 ⟨Nat.zero_le _, Nat.zero_le _⟩) hP hD hS [0, 1, 2, 3, 4, 5] [] rfl rfl (by decide) (by decide) (fun w1 H locs hw hP hD hS => ?_)
    obtain rfl := hw
    have hP : va_P D vCl (wP ad ca me nu ro (10 ^ 0) (10 ^ (2 - 0 + 1)) pt st cy pl bk en kc) H := hP
    have hD : va_D A (wP ad ca me nu ro (10 ^ 0) (10 ^ (2 - 0 + 1)) pt st cy pl bk en kc) := hD
    refine lv_goto (tgt := 118) hx hb d_Re_chooseField_77 (by decide) ?_
    exact zret_v C0 hr hAe hP hD hS rfl d_Re_chooseField_118
  · skip
    refine lv_iload_n hx hb d_Re_chooseField_0 rfl (lv_at hl 1 rfl) ?_
    refine lv_tableIn (off := 79) (tgt := 80) hx hb d_Re_chooseField_1 (by decide) (by decide) (by decide) (by decide) ?_
    refine lv_aload_n hx hb d_Re_chooseField_80 rfl (lv_at hl 0 rfl) ?_
    refine lv_bipush (v := nI 13) hx hb d_Re_chooseField_81 (by decide) ?_
    refine lv_bipush (v := nI 13) hx hb d_Re_chooseField_83 (by decide) ?_
    refine zgo_v (wr := []) C0 (zrunV (na := 2) (As := [.int (nI 13), .int (nI 13)]) (rest := []) C0 hP hD hS [0, 1, 2, 3, 4, 5] rfl rfl (m_Re_chooseDigits l D ca k s.heap.size ad me nu ro un li pt st cy pl bk en kc 13 13 (by omega) (by omega)) (zg_V q486 q488 q815 q5 q489) (by decide +kernel) rfl rfl ⟨by decide, by decide⟩ 2 rfl rfl rfl hl.1 rfl (Nat.le_of_ble_eq_true rfl) d_Re_chooseField_85 ⟨Nat.zero_le _, Nat.zero_le _⟩) hP hD hS [0, 1, 2, 3, 4, 5] [] rfl rfl (by decide) (by decide) (fun w1 H locs hw hP hD hS => ?_)
    obtain rfl := hw
    have hP : va_P D vCl (wP ad ca me nu ro (10 ^ 13) (10 ^ (13 - 13 + 1)) pt st cy pl bk en kc) H := hP
    have hD : va_D A (wP ad ca me nu ro (10 ^ 13) (10 ^ (13 - 13 + 1)) pt st cy pl bk en kc) := hD
    refine lv_goto (tgt := 118) hx hb d_Re_chooseField_88 (by decide) ?_
    exact zret_v C0 hr hAe hP hD hS rfl d_Re_chooseField_118
  · skip
    refine lv_iload_n hx hb d_Re_chooseField_0 rfl (lv_at hl 1 rfl) ?_
    refine lv_tableIn (off := 90) (tgt := 91) hx hb d_Re_chooseField_1 (by decide) (by decide) (by decide) (by decide) ?_
    refine lv_aload_n hx hb d_Re_chooseField_91 rfl (lv_at hl 0 rfl) ?_
    refine lv_iconst (v := nI 3) hx hb d_Re_chooseField_92 (by decide) ?_
    refine lv_bipush (v := nI 12) hx hb d_Re_chooseField_93 (by decide) ?_
    refine zgo_v (wr := []) C0 (zrunV (na := 2) (As := [.int (nI 3), .int (nI 12)]) (rest := []) C0 hP hD hS [0, 1, 2, 3, 4, 5] rfl rfl (m_Re_chooseDigits l D ca k s.heap.size ad me nu ro un li pt st cy pl bk en kc 3 12 (by omega) (by omega)) (zg_V q486 q488 q815 q5 q489) (by decide +kernel) rfl rfl ⟨by decide, by decide⟩ 2 rfl rfl rfl hl.1 rfl (Nat.le_of_ble_eq_true rfl) d_Re_chooseField_95 ⟨Nat.zero_le _, Nat.zero_le _⟩) hP hD hS [0, 1, 2, 3, 4, 5] [] rfl rfl (by decide) (by decide) (fun w1 H locs hw hP hD hS => ?_)
    obtain rfl := hw
    have hP : va_P D vCl (wP ad ca me nu ro (10 ^ 3) (10 ^ (12 - 3 + 1)) pt st cy pl bk en kc) H := hP
    have hD : va_D A (wP ad ca me nu ro (10 ^ 3) (10 ^ (12 - 3 + 1)) pt st cy pl bk en kc) := hD
    refine lv_goto (tgt := 118) hx hb d_Re_chooseField_98 (by decide) ?_
    exact zret_v C0 hr hAe hP hD hS rfl d_Re_chooseField_118
  · skip
    refine lv_iload_n hx hb d_Re_chooseField_0 rfl (lv_at hl 1 rfl) ?_
    refine lv_tableIn (off := 100) (tgt := 101) hx hb d_Re_chooseField_1 (by decide) (by decide) (by decide) (by decide) ?_
    refine lv_aload_n hx hb d_Re_chooseField_101 rfl (lv_at hl 0 rfl) ?_
    refine lv_iconst (v := nI 3) hx hb d_Re_chooseField_102 (by decide) ?_
    refine lv_bipush (v := nI 13) hx hb d_Re_chooseField_103 (by decide) ?_
    refine zgo_v (wr := []) C0 (zrunV (na := 2) (As := [.int (nI 3), .int (nI 13)]) (rest := []) C0 hP hD hS [0, 1, 2, 3, 4, 5] rfl rfl (m_Re_chooseDigits l D ca k s.heap.size ad me nu ro un li pt st cy pl bk en kc 3 13 (by omega) (by omega)) (zg_V q486 q488 q815 q5 q489) (by decide +kernel) rfl rfl ⟨by decide, by decide⟩ 2 rfl rfl rfl hl.1 rfl (Nat.le_of_ble_eq_true rfl) d_Re_chooseField_105 ⟨Nat.zero_le _, Nat.zero_le _⟩) hP hD hS [0, 1, 2, 3, 4, 5] [] rfl rfl (by decide) (by decide) (fun w1 H locs hw hP hD hS => ?_)
    obtain rfl := hw
    have hP : va_P D vCl (wP ad ca me nu ro (10 ^ 3) (10 ^ (13 - 3 + 1)) pt st cy pl bk en kc) H := hP
    have hD : va_D A (wP ad ca me nu ro (10 ^ 3) (10 ^ (13 - 3 + 1)) pt st cy pl bk en kc) := hD
    refine lv_goto (tgt := 118) hx hb d_Re_chooseField_108 (by decide) ?_
    exact zret_v C0 hr hAe hP hD hS rfl d_Re_chooseField_118
  · skip
    refine lv_iload_n hx hb d_Re_chooseField_0 rfl (lv_at hl 1 rfl) ?_
    refine lv_tableOut (tgt := 111) hx hb d_Re_chooseField_1 (by decide) (by decide) ?_
    refine lv_aload_n hx hb d_Re_chooseField_111 rfl (lv_at hl 0 rfl) ?_
    refine lv_iconst (v := nI 0) hx hb d_Re_chooseField_112 (by decide) ?_
    refine lv_bipush (v := nI 13) hx hb d_Re_chooseField_113 (by decide) ?_
    refine zgo_v (wr := []) C0 (zrunV (na := 2) (As := [.int (nI 0), .int (nI 13)]) (rest := []) C0 hP hD hS [0, 1, 2, 3, 4, 5] rfl rfl (m_Re_chooseDigits l D ca k s.heap.size ad me nu ro un li pt st cy pl bk en kc 0 13 (by omega) (by omega)) (zg_V q486 q488 q815 q5 q489) (by decide +kernel) rfl rfl ⟨by decide, by decide⟩ 2 rfl rfl rfl hl.1 rfl (Nat.le_of_ble_eq_true rfl) d_Re_chooseField_115 ⟨Nat.zero_le _, Nat.zero_le _⟩) hP hD hS [0, 1, 2, 3, 4, 5] [] rfl rfl (by decide) (by decide) (fun w1 H locs hw hP hD hS => ?_)
    obtain rfl := hw
    have hP : va_P D vCl (wP ad ca me nu ro (10 ^ 0) (10 ^ (13 - 0 + 1)) pt st cy pl bk en kc) H := hP
    have hD : va_D A (wP ad ca me nu ro (10 ^ 0) (10 ^ (13 - 0 + 1)) pt st cy pl bk en kc) := hD
    exact zret_v C0 hr hAe hP hD hS rfl d_Re_chooseField_118
end
section
set_option maxHeartbeats 4000000 in
set_option maxRecDepth 100000 in
theorem m_Wa_append (l : Launch) (D : va_G) (ca : Nat → ClassId) (k : Nat → Nat) (sz : Nat) (ad : Nat → Nat) (me nu ro : Nat → Nat) (un li pt : Nat) (st : Int32) (cy pl bk en kc : Nat) (x : Int32) (hk3 : kc ≤ 3) : Met l y_Wa_append (zw y_Wa_append c_Wa_append 2 (some .boolean)) { frames := 0, cells := 0, slots := 0, locals := 0 } (va_Pc [.ref (ad 10), .int x] (zPre D (zty ca) k (wP ad ca me nu ro un li pt st cy pl bk en kc) sz)) (va_Qi (fun b w => (kOk x kc ∧ b = nI 1 ∧ w = wP ad ca me nu (uN ro kc x.toNatClampNeg) un li pt st cy pl bk en (kc + 1)) ∨ (¬ kOk x kc ∧ b = nI 0 ∧ w = wP ad ca me nu ro un li pt st cy pl bk en kc)) (zB D (zty ca) (wP ad ca me nu ro un li pt st cy pl bk en kc) sz) (va_A (wP ad ca me nu ro un li pt st cy pl bk en kc) sz)) 0 0 (va_A (wP ad ca me nu ro un li pt st cy pl bk en kc) sz) := by
  refine zOf (own := "DigitChip$Waiting") (by decide +kernel) rfl (Nat.le_of_ble_eq_true rfl) ?_
  intro p e s m below meth c A ls C0 hr hnm hAe hsz hl hP hD hS
  have hl : lv_has ls 2 [(0, .ref (ad 10)), (1, .int x)] := hl
  obtain ⟨hx, hb, hml, hown, ht, hK, hX, hA, hlk⟩ := id C0
  refine lv_iload_n hx hb d_Wa_append_0 rfl (lv_at hl 1 rfl) ?_
  refine lv_if_lt (tgt := 18) hx hb d_Wa_append_1 (by decide) (fun h1 => ?_) (fun h1 => ?_)
  · skip
    refine lv_iconst (v := nI 0) hx hb d_Wa_append_18 (by decide) ?_
    exact zret_z C0 hr (zbn (by omega)) hAe hP hD hS (Or.inr ⟨fun z => z.1 h1, rfl, rfl⟩) d_Wa_append_19
  · skip
    obtain ⟨j, hj, rfl⟩ := nI_of h1
    refine lv_iload_n hx hb d_Wa_append_4 rfl (lv_at hl 1 rfl) ?_
    refine lv_bipush (v := nI 16) hx hb d_Wa_append_5 (by decide) ?_
    refine lv_icmp_ge (tgt := 18) hx hb d_Wa_append_7 (by decide) (fun h2 => ?_) (fun h2 => ?_)
    · skip
      have h2 : (16 ≤ j) := (nI_leI (by omega) (by omega)).mp h2
      refine lv_iconst (v := nI 0) hx hb d_Wa_append_18 (by decide) ?_
      exact zret_z C0 hr (zbn (by omega)) hAe hP hD hS (Or.inr ⟨fun z => z.2.1 (nI_le (by omega) (by omega)), rfl, rfl⟩) d_Wa_append_19
    · skip
      have h2 : ¬ (16 ≤ j) := fun z => h2 ((nI_leI (by omega) (by omega)).mpr z)
      refine lv_aload_n hx hb d_Wa_append_10 rfl (lv_at hl 0 rfl) ?_
      refine va_get (D := D) (ci := 3) (v := .int (nI kc)) (C := RWa) (T := TWa) (N := 2) hx hb ht inWa hown hK hP 4 rfl rfl 1 (by decide) (ht _ q107) (fun _ h9 => h9) rfl d_Wa_append_11 ?_
      refine lv_iconst (v := nI 3) hx hb d_Wa_append_14 (by decide) ?_
      refine lv_icmp_lt (tgt := 20) hx hb d_Wa_append_15 (by decide) (fun h3 => ?_) (fun h3 => ?_)
      · skip
        have h3 : (kc < 3) := (nI_ltI (by omega) (by omega)).mp h3
        refine lv_aload_n hx hb d_Wa_append_20 rfl (lv_at hl 0 rfl) ?_
        refine va_get (D := D) (ci := 3) (v := .ref (ad 11)) (C := RWa) (T := TWa) (N := 2) hx hb ht inWa hown hK hP 4 rfl rfl 0 (by decide) (ht _ q106) (fun _ h9 => h9) rfl d_Wa_append_21 ?_
        refine lv_aload_n hx hb d_Wa_append_24 rfl (lv_at hl 0 rfl) ?_
        refine va_get (D := D) (ci := 3) (v := .int (nI kc)) (C := RWa) (T := TWa) (N := 2) hx hb ht inWa hown hK hP 4 rfl rfl 1 (by decide) (ht _ q107) (fun _ h9 => h9) rfl d_Wa_append_25 ?_
        refine lv_iload_n hx hb d_Wa_append_28 rfl (lv_at hl 1 rfl) ?_
        refine va_iast hx hb hK hP hD hS 5 0 rfl rfl (vp_in_nI (n := kc) (by omega) (by decide)) d_Wa_append_29 (fun H locs hP hD hS => ?_)
        rw [nF_up (by omega)] at hP hD
        have hP : va_P D vCl (wP ad ca me nu (uN ro kc j) un li pt st cy pl bk en kc) H := hP
        have hD : va_D A (wP ad ca me nu (uN ro kc j) un li pt st cy pl bk en kc) := hD
        refine lv_aload_n hx hb d_Wa_append_30 rfl (lv_at hl 0 rfl) ?_
        refine lv_dup hx hb d_Wa_append_31 rfl ?_
        refine va_get (D := D) (ci := 3) (v := .int (nI kc)) (C := RWa) (T := TWa) (N := 2) hx hb ht inWa hown hK hP 4 rfl rfl 1 (by decide) (ht _ q107) (fun _ h9 => h9) rfl d_Wa_append_32 ?_
        refine lv_iconst (v := nI 1) hx hb d_Wa_append_35 (by decide) ?_
        refine lv_iadd hx hb d_Wa_append_36 ?_
        refine zti (y := nI (kc + 1)) (nI_add _ _) ?_
        refine va_put (D := D) (ci := 3) (v := .int (nI (kc + 1))) (ty := .int) (C := RWa) (T := TWa) (N := 2) hx hb ht inWa tyWa tyWa_ok nmWa hown hK hP hD hS 4 rfl rfl 1 (by decide) (ht _ q107) (fun _ h9 => h9) rfl (by decide +kernel) rfl rfl (Nat.le_of_ble_eq_true rfl) d_Wa_append_37 (fun H locs hP hD hS => ?_)
        have hP : va_P D vCl (wP ad ca me nu (uN ro kc j) un li pt st cy pl bk en (kc + 1)) H := hP
        have hD : va_D A (wP ad ca me nu (uN ro kc j) un li pt st cy pl bk en (kc + 1)) := hD
        refine lv_iconst (v := nI 1) hx hb d_Wa_append_40 (by decide) ?_
        exact zret_z C0 hr (zbn (by omega)) hAe hP hD hS (Or.inl ⟨⟨nI_pos (by omega), fun z => by have := (nI_leI (by decide) (by omega)).mp z; omega, by omega⟩, rfl, by rw [nI_clamp (by omega)]⟩) d_Wa_append_41
      · skip
        have h3 : ¬ (kc < 3) := fun z => h3 ((nI_ltI (by omega) (by omega)).mpr z)
        refine lv_iconst (v := nI 0) hx hb d_Wa_append_18 (by decide) ?_
        exact zret_z C0 hr (zbn (by omega)) hAe hP hD hS (Or.inr ⟨fun z => by have := z.2.2; omega, rfl, rfl⟩) d_Wa_append_19
set_option maxHeartbeats 4000000 in
set_option maxRecDepth 100000 in
theorem m_Wa_takeFirst (l : Launch) (D : va_G) (ca : Nat → ClassId) (k : Nat → Nat) (sz : Nat) (ad : Nat → Nat) (me nu ro : Nat → Nat) (un li pt : Nat) (st : Int32) (cy pl bk en kc : Nat) (hk3 : kc ≤ 3) : Met l y_Wa_takeFirst (zw y_Wa_takeFirst c_Wa_takeFirst 3 (some .int)) { frames := 0, cells := 0, slots := 0, locals := 0 } (va_Pc [.ref (ad 10)] (zPre D (zty ca) k (wP ad ca me nu ro un li pt st cy pl bk en kc) sz)) (va_Qi (fun x w => (kc = 0 ∧ x = (-1) ∧ w = wP ad ca me nu ro un li pt st cy pl bk en kc) ∨ (0 < kc ∧ x = nI (ro 0) ∧ w = wP ad ca me nu (shC ro kc) un li pt st cy pl bk en (kc - 1))) (zB D (zty ca) (wP ad ca me nu ro un li pt st cy pl bk en kc) sz) (va_A (wP ad ca me nu ro un li pt st cy pl bk en kc) sz)) 0 0 (va_A (wP ad ca me nu ro un li pt st cy pl bk en kc) sz) := by
  refine zOf (own := "DigitChip$Waiting") (by decide +kernel) rfl (Nat.le_of_ble_eq_true rfl) ?_
  intro p e s m below meth c A ls C0 hr hnm hAe hsz hl hP hD hS
  have hl : lv_has ls 3 [(0, .ref (ad 10))] := hl
  obtain ⟨hx, hb, hml, hown, ht, hK, hX, hA, hlk⟩ := id C0
  rcases (show kc = 0 ∨ kc = 1 ∨ kc = 2 ∨ kc = 3 from by omega) with rfl | rfl | rfl | rfl
  · skip
    refine lv_aload_n hx hb d_Wa_takeFirst_0 rfl (lv_at hl 0 rfl) ?_
    refine va_get (D := D) (ci := 3) (v := .int (nI 0)) (C := RWa) (T := TWa) (N := 2) hx hb ht inWa hown hK hP 4 rfl rfl 1 (by decide) (ht _ q107) (fun _ h9 => h9) rfl d_Wa_takeFirst_1 ?_
    refine lv_if_ne (tgt := 9) hx hb d_Wa_takeFirst_4 (by decide) (fun h1 => absurd (by decide) h1) (fun _ => ?_)
    refine lv_iconst (v := (-1)) hx hb d_Wa_takeFirst_7 (by decide) ?_
    exact zret_i C0 hr hAe hP hD hS (Or.inl ⟨rfl, rfl, rfl⟩) d_Wa_takeFirst_8
  · skip
    refine lv_aload_n hx hb d_Wa_takeFirst_0 rfl (lv_at hl 0 rfl) ?_
    refine va_get (D := D) (ci := 3) (v := .int (nI 1)) (C := RWa) (T := TWa) (N := 2) hx hb ht inWa hown hK hP 4 rfl rfl 1 (by decide) (ht _ q107) (fun _ h9 => h9) rfl d_Wa_takeFirst_1 ?_
    refine lv_if_ne (tgt := 9) hx hb d_Wa_takeFirst_4 (by decide) (fun _ => ?_) (fun h2 => absurd h2 (by decide))
    refine lv_aload_n hx hb d_Wa_takeFirst_9 rfl (lv_at hl 0 rfl) ?_
    refine va_get (D := D) (ci := 3) (v := .ref (ad 11)) (C := RWa) (T := TWa) (N := 2) hx hb ht inWa hown hK hP 4 rfl rfl 0 (by decide) (ht _ q106) (fun _ h9 => h9) rfl d_Wa_takeFirst_10 ?_
    refine lv_iconst (v := nI 0) hx hb d_Wa_takeFirst_13 (by decide) ?_
    refine va_iald hx hb hK hP 5 0 rfl rfl (vp_in_nI (n := 0) (by omega) (by decide)) d_Wa_takeFirst_14 ?_
    refine zti (y := nI (ro 0)) (nF_at (by omega)) ?_
    refine lv_istore_n hx hb d_Wa_takeFirst_15 rfl hl (by decide) rfl (fun ls hl => ?_)
    have hl : lv_has ls 3 [(1, .int (nI (ro 0))), (0, .ref (ad 10))] := hl
    refine lv_aload_n hx hb d_Wa_takeFirst_16 rfl (lv_at hl 1 rfl) ?_
    refine lv_dup hx hb d_Wa_takeFirst_17 rfl ?_
    refine va_get (D := D) (ci := 3) (v := .int (nI 1)) (C := RWa) (T := TWa) (N := 2) hx hb ht inWa hown hK hP 4 rfl rfl 1 (by decide) (ht _ q107) (fun _ h9 => h9) rfl d_Wa_takeFirst_18 ?_
    refine lv_iconst (v := nI 1) hx hb d_Wa_takeFirst_21 (by decide) ?_
    refine lv_isub hx hb d_Wa_takeFirst_22 ?_
    refine zti (y := nI 0) (by decide) ?_
    refine va_put (D := D) (ci := 3) (v := .int (nI 0)) (ty := .int) (C := RWa) (T := TWa) (N := 2) hx hb ht inWa tyWa tyWa_ok nmWa hown hK hP hD hS 4 rfl rfl 1 (by decide) (ht _ q107) (fun _ h9 => h9) rfl (by decide +kernel) rfl rfl (Nat.le_of_ble_eq_true rfl) d_Wa_takeFirst_23 (fun H locs hP hD hS => ?_)
    have hP : va_P D vCl (wP ad ca me nu ro un li pt st cy pl bk en 0) H := hP
    have hD : va_D A (wP ad ca me nu ro un li pt st cy pl bk en 0) := hD
    refine lv_iconst (v := nI 0) hx hb d_Wa_takeFirst_26 (by decide) ?_
    refine lv_istore_n hx hb d_Wa_takeFirst_27 rfl hl (by decide) rfl (fun ls hl => ?_)
    have hl : lv_has ls 3 [(2, .int (nI 0)), (1, .int (nI (ro 0))), (0, .ref (ad 10))] := hl
    refine lv_iload_n hx hb d_Wa_takeFirst_28 rfl (lv_at hl 0 rfl) ?_
    refine lv_aload_n hx hb d_Wa_takeFirst_29 rfl (lv_at hl 2 rfl) ?_
    refine va_get (D := D) (ci := 3) (v := .int (nI 0)) (C := RWa) (T := TWa) (N := 2) hx hb ht inWa hown hK hP 4 rfl rfl 1 (by decide) (ht _ q107) (fun _ h9 => h9) rfl d_Wa_takeFirst_30 ?_
    refine lv_icmp_ge (tgt := 56) hx hb d_Wa_takeFirst_33 (by decide) (fun _ => ?_) (fun h3 => absurd (by decide) h3)
    refine lv_iload_n hx hb d_Wa_takeFirst_56 rfl (lv_at hl 1 rfl) ?_
    exact zret_i C0 hr hAe hP hD hS (Or.inr ⟨by decide, rfl, rfl⟩) d_Wa_takeFirst_57
  · skip
    refine lv_aload_n hx hb d_Wa_takeFirst_0 rfl (lv_at hl 0 rfl) ?_
    refine va_get (D := D) (ci := 3) (v := .int (nI 2)) (C := RWa) (T := TWa) (N := 2) hx hb ht inWa hown hK hP 4 rfl rfl 1 (by decide) (ht _ q107) (fun _ h9 => h9) rfl d_Wa_takeFirst_1 ?_
    refine lv_if_ne (tgt := 9) hx hb d_Wa_takeFirst_4 (by decide) (fun _ => ?_) (fun h4 => absurd h4 (by decide))
    refine lv_aload_n hx hb d_Wa_takeFirst_9 rfl (lv_at hl 0 rfl) ?_
    refine va_get (D := D) (ci := 3) (v := .ref (ad 11)) (C := RWa) (T := TWa) (N := 2) hx hb ht inWa hown hK hP 4 rfl rfl 0 (by decide) (ht _ q106) (fun _ h9 => h9) rfl d_Wa_takeFirst_10 ?_
    refine lv_iconst (v := nI 0) hx hb d_Wa_takeFirst_13 (by decide) ?_
    refine va_iald hx hb hK hP 5 0 rfl rfl (vp_in_nI (n := 0) (by omega) (by decide)) d_Wa_takeFirst_14 ?_
    refine zti (y := nI (ro 0)) (nF_at (by omega)) ?_
    refine lv_istore_n hx hb d_Wa_takeFirst_15 rfl hl (by decide) rfl (fun ls hl => ?_)
    have hl : lv_has ls 3 [(1, .int (nI (ro 0))), (0, .ref (ad 10))] := hl
    refine lv_aload_n hx hb d_Wa_takeFirst_16 rfl (lv_at hl 1 rfl) ?_
    refine lv_dup hx hb d_Wa_takeFirst_17 rfl ?_
    refine va_get (D := D) (ci := 3) (v := .int (nI 2)) (C := RWa) (T := TWa) (N := 2) hx hb ht inWa hown hK hP 4 rfl rfl 1 (by decide) (ht _ q107) (fun _ h9 => h9) rfl d_Wa_takeFirst_18 ?_
    refine lv_iconst (v := nI 1) hx hb d_Wa_takeFirst_21 (by decide) ?_
    refine lv_isub hx hb d_Wa_takeFirst_22 ?_
    refine zti (y := nI 1) (by decide) ?_
    refine va_put (D := D) (ci := 3) (v := .int (nI 1)) (ty := .int) (C := RWa) (T := TWa) (N := 2) hx hb ht inWa tyWa tyWa_ok nmWa hown hK hP hD hS 4 rfl rfl 1 (by decide) (ht _ q107) (fun _ h9 => h9) rfl (by decide +kernel) rfl rfl (Nat.le_of_ble_eq_true rfl) d_Wa_takeFirst_23 (fun H locs hP hD hS => ?_)
    have hP : va_P D vCl (wP ad ca me nu ro un li pt st cy pl bk en 1) H := hP
    have hD : va_D A (wP ad ca me nu ro un li pt st cy pl bk en 1) := hD
    refine lv_iconst (v := nI 0) hx hb d_Wa_takeFirst_26 (by decide) ?_
    refine lv_istore_n hx hb d_Wa_takeFirst_27 rfl hl (by decide) rfl (fun ls hl => ?_)
    have hl : lv_has ls 3 [(2, .int (nI 0)), (1, .int (nI (ro 0))), (0, .ref (ad 10))] := hl
    refine lv_iload_n hx hb d_Wa_takeFirst_28 rfl (lv_at hl 0 rfl) ?_
    refine lv_aload_n hx hb d_Wa_takeFirst_29 rfl (lv_at hl 2 rfl) ?_
    refine va_get (D := D) (ci := 3) (v := .int (nI 1)) (C := RWa) (T := TWa) (N := 2) hx hb ht inWa hown hK hP 4 rfl rfl 1 (by decide) (ht _ q107) (fun _ h9 => h9) rfl d_Wa_takeFirst_30 ?_
    refine lv_icmp_ge (tgt := 56) hx hb d_Wa_takeFirst_33 (by decide) (fun h5 => absurd h5 (by decide)) (fun _ => ?_)
    refine lv_aload_n hx hb d_Wa_takeFirst_36 rfl (lv_at hl 2 rfl) ?_
    refine va_get (D := D) (ci := 3) (v := .ref (ad 11)) (C := RWa) (T := TWa) (N := 2) hx hb ht inWa hown hK hP 4 rfl rfl 0 (by decide) (ht _ q106) (fun _ h9 => h9) rfl d_Wa_takeFirst_37 ?_
    refine lv_iload_n hx hb d_Wa_takeFirst_40 rfl (lv_at hl 0 rfl) ?_
    refine lv_aload_n hx hb d_Wa_takeFirst_41 rfl (lv_at hl 2 rfl) ?_
    refine va_get (D := D) (ci := 3) (v := .ref (ad 11)) (C := RWa) (T := TWa) (N := 2) hx hb ht inWa hown hK hP 4 rfl rfl 0 (by decide) (ht _ q106) (fun _ h9 => h9) rfl d_Wa_takeFirst_42 ?_
    refine lv_iload_n hx hb d_Wa_takeFirst_45 rfl (lv_at hl 0 rfl) ?_
    refine lv_iconst (v := nI 1) hx hb d_Wa_takeFirst_46 (by decide) ?_
    refine lv_iadd hx hb d_Wa_takeFirst_47 ?_
    refine zti (y := nI 1) (by decide) ?_
    refine va_iald hx hb hK hP 5 0 rfl rfl (vp_in_nI (n := 1) (by omega) (by decide)) d_Wa_takeFirst_48 ?_
    refine zti (y := nI (ro 1)) (nF_at (by omega)) ?_
    refine va_iast hx hb hK hP hD hS 5 0 rfl rfl (vp_in_nI (n := 0) (by omega) (by decide)) d_Wa_takeFirst_49 (fun H locs hP hD hS => ?_)
    rw [nF_up (by omega)] at hP hD
    have hP : va_P D vCl (wP ad ca me nu (uN ro 0 (ro 1)) un li pt st cy pl bk en 1) H := hP
    have hD : va_D A (wP ad ca me nu (uN ro 0 (ro 1)) un li pt st cy pl bk en 1) := hD
    refine lv_iinc (k := 0) (v := nI (1)) hx hb d_Wa_takeFirst_50 hl rfl (by decide) (by decide) rfl (fun ls hl => ?_)
    have hl : lv_has ls 3 [(2, .int (nI 1)), (1, .int (nI (ro 0))), (0, .ref (ad 10))] := hl
    refine lv_goto (tgt := 28) hx hb d_Wa_takeFirst_53 (by decide) ?_
    refine lv_iload_n hx hb d_Wa_takeFirst_28 rfl (lv_at hl 0 rfl) ?_
    refine lv_aload_n hx hb d_Wa_takeFirst_29 rfl (lv_at hl 2 rfl) ?_
    refine va_get (D := D) (ci := 3) (v := .int (nI 1)) (C := RWa) (T := TWa) (N := 2) hx hb ht inWa hown hK hP 4 rfl rfl 1 (by decide) (ht _ q107) (fun _ h9 => h9) rfl d_Wa_takeFirst_30 ?_
    refine lv_icmp_ge (tgt := 56) hx hb d_Wa_takeFirst_33 (by decide) (fun _ => ?_) (fun h6 => absurd (by decide) h6)
    refine lv_iload_n hx hb d_Wa_takeFirst_56 rfl (lv_at hl 1 rfl) ?_
    exact zret_i C0 hr hAe hP hD hS (Or.inr ⟨by decide, rfl, rfl⟩) d_Wa_takeFirst_57
  · skip
    refine lv_aload_n hx hb d_Wa_takeFirst_0 rfl (lv_at hl 0 rfl) ?_
    refine va_get (D := D) (ci := 3) (v := .int (nI 3)) (C := RWa) (T := TWa) (N := 2) hx hb ht inWa hown hK hP 4 rfl rfl 1 (by decide) (ht _ q107) (fun _ h9 => h9) rfl d_Wa_takeFirst_1 ?_
    refine lv_if_ne (tgt := 9) hx hb d_Wa_takeFirst_4 (by decide) (fun _ => ?_) (fun h7 => absurd h7 (by decide))
    refine lv_aload_n hx hb d_Wa_takeFirst_9 rfl (lv_at hl 0 rfl) ?_
    refine va_get (D := D) (ci := 3) (v := .ref (ad 11)) (C := RWa) (T := TWa) (N := 2) hx hb ht inWa hown hK hP 4 rfl rfl 0 (by decide) (ht _ q106) (fun _ h9 => h9) rfl d_Wa_takeFirst_10 ?_
    refine lv_iconst (v := nI 0) hx hb d_Wa_takeFirst_13 (by decide) ?_
    refine va_iald hx hb hK hP 5 0 rfl rfl (vp_in_nI (n := 0) (by omega) (by decide)) d_Wa_takeFirst_14 ?_
    refine zti (y := nI (ro 0)) (nF_at (by omega)) ?_
    refine lv_istore_n hx hb d_Wa_takeFirst_15 rfl hl (by decide) rfl (fun ls hl => ?_)
    have hl : lv_has ls 3 [(1, .int (nI (ro 0))), (0, .ref (ad 10))] := hl
    refine lv_aload_n hx hb d_Wa_takeFirst_16 rfl (lv_at hl 1 rfl) ?_
    refine lv_dup hx hb d_Wa_takeFirst_17 rfl ?_
    refine va_get (D := D) (ci := 3) (v := .int (nI 3)) (C := RWa) (T := TWa) (N := 2) hx hb ht inWa hown hK hP 4 rfl rfl 1 (by decide) (ht _ q107) (fun _ h9 => h9) rfl d_Wa_takeFirst_18 ?_
    refine lv_iconst (v := nI 1) hx hb d_Wa_takeFirst_21 (by decide) ?_
    refine lv_isub hx hb d_Wa_takeFirst_22 ?_
    refine zti (y := nI 2) (by decide) ?_
    refine va_put (D := D) (ci := 3) (v := .int (nI 2)) (ty := .int) (C := RWa) (T := TWa) (N := 2) hx hb ht inWa tyWa tyWa_ok nmWa hown hK hP hD hS 4 rfl rfl 1 (by decide) (ht _ q107) (fun _ h9 => h9) rfl (by decide +kernel) rfl rfl (Nat.le_of_ble_eq_true rfl) d_Wa_takeFirst_23 (fun H locs hP hD hS => ?_)
    have hP : va_P D vCl (wP ad ca me nu ro un li pt st cy pl bk en 2) H := hP
    have hD : va_D A (wP ad ca me nu ro un li pt st cy pl bk en 2) := hD
    refine lv_iconst (v := nI 0) hx hb d_Wa_takeFirst_26 (by decide) ?_
    refine lv_istore_n hx hb d_Wa_takeFirst_27 rfl hl (by decide) rfl (fun ls hl => ?_)
    have hl : lv_has ls 3 [(2, .int (nI 0)), (1, .int (nI (ro 0))), (0, .ref (ad 10))] := hl
    refine lv_iload_n hx hb d_Wa_takeFirst_28 rfl (lv_at hl 0 rfl) ?_
    refine lv_aload_n hx hb d_Wa_takeFirst_29 rfl (lv_at hl 2 rfl) ?_
    refine va_get (D := D) (ci := 3) (v := .int (nI 2)) (C := RWa) (T := TWa) (N := 2) hx hb ht inWa hown hK hP 4 rfl rfl 1 (by decide) (ht _ q107) (fun _ h9 => h9) rfl d_Wa_takeFirst_30 ?_
    refine lv_icmp_ge (tgt := 56) hx hb d_Wa_takeFirst_33 (by decide) (fun h8 => absurd h8 (by decide)) (fun _ => ?_)
    refine lv_aload_n hx hb d_Wa_takeFirst_36 rfl (lv_at hl 2 rfl) ?_
    refine va_get (D := D) (ci := 3) (v := .ref (ad 11)) (C := RWa) (T := TWa) (N := 2) hx hb ht inWa hown hK hP 4 rfl rfl 0 (by decide) (ht _ q106) (fun _ h9 => h9) rfl d_Wa_takeFirst_37 ?_
    refine lv_iload_n hx hb d_Wa_takeFirst_40 rfl (lv_at hl 0 rfl) ?_
    refine lv_aload_n hx hb d_Wa_takeFirst_41 rfl (lv_at hl 2 rfl) ?_
    refine va_get (D := D) (ci := 3) (v := .ref (ad 11)) (C := RWa) (T := TWa) (N := 2) hx hb ht inWa hown hK hP 4 rfl rfl 0 (by decide) (ht _ q106) (fun _ h9 => h9) rfl d_Wa_takeFirst_42 ?_
    refine lv_iload_n hx hb d_Wa_takeFirst_45 rfl (lv_at hl 0 rfl) ?_
    refine lv_iconst (v := nI 1) hx hb d_Wa_takeFirst_46 (by decide) ?_
    refine lv_iadd hx hb d_Wa_takeFirst_47 ?_
    refine zti (y := nI 1) (by decide) ?_
    refine va_iald hx hb hK hP 5 0 rfl rfl (vp_in_nI (n := 1) (by omega) (by decide)) d_Wa_takeFirst_48 ?_
    refine zti (y := nI (ro 1)) (nF_at (by omega)) ?_
    refine va_iast hx hb hK hP hD hS 5 0 rfl rfl (vp_in_nI (n := 0) (by omega) (by decide)) d_Wa_takeFirst_49 (fun H locs hP hD hS => ?_)
    rw [nF_up (by omega)] at hP hD
    have hP : va_P D vCl (wP ad ca me nu (uN ro 0 (ro 1)) un li pt st cy pl bk en 2) H := hP
    have hD : va_D A (wP ad ca me nu (uN ro 0 (ro 1)) un li pt st cy pl bk en 2) := hD
    refine lv_iinc (k := 0) (v := nI (1)) hx hb d_Wa_takeFirst_50 hl rfl (by decide) (by decide) rfl (fun ls hl => ?_)
    have hl : lv_has ls 3 [(2, .int (nI 1)), (1, .int (nI (ro 0))), (0, .ref (ad 10))] := hl
    refine lv_goto (tgt := 28) hx hb d_Wa_takeFirst_53 (by decide) ?_
    refine lv_iload_n hx hb d_Wa_takeFirst_28 rfl (lv_at hl 0 rfl) ?_
    refine lv_aload_n hx hb d_Wa_takeFirst_29 rfl (lv_at hl 2 rfl) ?_
    refine va_get (D := D) (ci := 3) (v := .int (nI 2)) (C := RWa) (T := TWa) (N := 2) hx hb ht inWa hown hK hP 4 rfl rfl 1 (by decide) (ht _ q107) (fun _ h9 => h9) rfl d_Wa_takeFirst_30 ?_
    refine lv_icmp_ge (tgt := 56) hx hb d_Wa_takeFirst_33 (by decide) (fun h9 => absurd h9 (by decide)) (fun _ => ?_)
    refine lv_aload_n hx hb d_Wa_takeFirst_36 rfl (lv_at hl 2 rfl) ?_
    refine va_get (D := D) (ci := 3) (v := .ref (ad 11)) (C := RWa) (T := TWa) (N := 2) hx hb ht inWa hown hK hP 4 rfl rfl 0 (by decide) (ht _ q106) (fun _ h9 => h9) rfl d_Wa_takeFirst_37 ?_
    refine lv_iload_n hx hb d_Wa_takeFirst_40 rfl (lv_at hl 0 rfl) ?_
    refine lv_aload_n hx hb d_Wa_takeFirst_41 rfl (lv_at hl 2 rfl) ?_
    refine va_get (D := D) (ci := 3) (v := .ref (ad 11)) (C := RWa) (T := TWa) (N := 2) hx hb ht inWa hown hK hP 4 rfl rfl 0 (by decide) (ht _ q106) (fun _ h9 => h9) rfl d_Wa_takeFirst_42 ?_
    refine lv_iload_n hx hb d_Wa_takeFirst_45 rfl (lv_at hl 0 rfl) ?_
    refine lv_iconst (v := nI 1) hx hb d_Wa_takeFirst_46 (by decide) ?_
    refine lv_iadd hx hb d_Wa_takeFirst_47 ?_
    refine zti (y := nI 2) (by decide) ?_
    refine va_iald hx hb hK hP 5 0 rfl rfl (vp_in_nI (n := 2) (by omega) (by decide)) d_Wa_takeFirst_48 ?_
    refine zti (y := nI ((uN ro 0 (ro 1)) 2)) (nF_at (by omega)) ?_
    refine va_iast hx hb hK hP hD hS 5 0 rfl rfl (vp_in_nI (n := 1) (by omega) (by decide)) d_Wa_takeFirst_49 (fun H locs hP hD hS => ?_)
    rw [nF_up (by omega)] at hP hD
    have hP : va_P D vCl (wP ad ca me nu (uN (uN ro 0 (ro 1)) 1 ((uN ro 0 (ro 1)) 2)) un li pt st cy pl bk en 2) H := hP
    have hD : va_D A (wP ad ca me nu (uN (uN ro 0 (ro 1)) 1 ((uN ro 0 (ro 1)) 2)) un li pt st cy pl bk en 2) := hD
    refine lv_iinc (k := 0) (v := nI (2)) hx hb d_Wa_takeFirst_50 hl rfl (by decide) (by decide) rfl (fun ls hl => ?_)
    have hl : lv_has ls 3 [(2, .int (nI 2)), (1, .int (nI (ro 0))), (0, .ref (ad 10))] := hl
    refine lv_goto (tgt := 28) hx hb d_Wa_takeFirst_53 (by decide) ?_
    refine lv_iload_n hx hb d_Wa_takeFirst_28 rfl (lv_at hl 0 rfl) ?_
    refine lv_aload_n hx hb d_Wa_takeFirst_29 rfl (lv_at hl 2 rfl) ?_
    refine va_get (D := D) (ci := 3) (v := .int (nI 2)) (C := RWa) (T := TWa) (N := 2) hx hb ht inWa hown hK hP 4 rfl rfl 1 (by decide) (ht _ q107) (fun _ h9 => h9) rfl d_Wa_takeFirst_30 ?_
    refine lv_icmp_ge (tgt := 56) hx hb d_Wa_takeFirst_33 (by decide) (fun _ => ?_) (fun h10 => absurd (by decide) h10)
    refine lv_iload_n hx hb d_Wa_takeFirst_56 rfl (lv_at hl 1 rfl) ?_
    exact zret_i C0 hr hAe hP hD hS (Or.inr ⟨by decide, rfl, rfl⟩) d_Wa_takeFirst_57
end
section
set_option maxHeartbeats 4000000 in
set_option maxRecDepth 100000 in
theorem m_Ma_floorMod (l : Launch) (D : va_G) (ca : Nat → ClassId) (k : Nat → Nat) (sz : Nat) (ad : Nat → Nat) (z : Int) (n0 : Nat) (hz : -(2 ^ 62) ≤ z ∧ z < 2 ^ 62) (hn0 : 0 < n0) (hn1 : n0 < 2 ^ 62) : Met l y_Ma_floorMod (zw y_Ma_floorMod c_Ma_floorMod 6 (some .long)) { frames := 0, cells := 0, slots := 0, locals := 0 } (va_Pc [.long (Int64.ofInt z), .long (lN n0)] (zPre D (zty ca) k ([]) sz)) (va_Ql (fun x w => x = lN (rz n0 z) ∧ w = []) (zB D (zty ca) ([]) sz) (va_A ([]) sz)) 0 0 (va_A ([]) sz) := by
  refine zOfF (own := "java/lang/Math") (by decide +kernel) rfl (Nat.le_of_ble_eq_true rfl) ?_
  intro p e s m below meth c A ls C0 hr hnm hAe hsz hl hP hD hS
  have hl : lv_has ls 6 [(0, .long (Int64.ofInt z)), (2, .long (lN n0))] := hl
  obtain ⟨hx, hb, hml, hown, ht, hK, hX, hA, hlk⟩ := id C0
  refine lv_lload_n hx hb d_Ma_floorMod_0 rfl (lv_at hl 0 rfl) ?_
  refine lv_lload_n hx hb d_Ma_floorMod_1 rfl (lv_at hl 1 rfl) ?_
  refine lv_lrem hx hb d_Ma_floorMod_2 (zlne (by omega) (by omega)) ?_
  refine ztl (y := Int64.ofInt (z.tmod n0)) (fm_rem hz hn1) ?_
  have hzb := fm_bd hz hn0 hn1
  refine lv_lstore hx hb d_Ma_floorMod_3 hl (by decide) rfl (fun ls hl => ?_)
  have hl : lv_has ls 6 [(4, .long (Int64.ofInt (z.tmod n0))), (0, .long (Int64.ofInt z)), (2, .long (lN n0))] := hl
  refine lv_lload_n hx hb d_Ma_floorMod_5 rfl (lv_at hl 1 rfl) ?_
  refine lv_lload_n hx hb d_Ma_floorMod_6 rfl (lv_at hl 2 rfl) ?_
  refine lv_lxor hx hb d_Ma_floorMod_7 ?_
  refine lv_lconst (v := lN 0) hx hb d_Ma_floorMod_8 rfl ?_
  refine W.lcmp hx hb d_Ma_floorMod_9 ?_
  refine lv_if_ge (tgt := 25) hx hb d_Ma_floorMod_10 (by decide) (fun h1 => ?_) (fun h1 => ?_)
  · skip
    have h1 : (lN 0 ≤ ((Int64.ofInt z) ^^^ (lN n0))) := (lg_cmp_ge _ _).mp h1
    refine lv_lload hx hb d_Ma_floorMod_25 (lv_at hl 0 rfl) ?_
    exact zret_l C0 hr hAe hP hD hS ⟨(by have := fm_p (n := n0) hn0 ((fm_sg hz hn1).mp h1); rw [this]), rfl⟩ d_Ma_floorMod_27
  · skip
    have h1 : ¬ (lN 0 ≤ ((Int64.ofInt z) ^^^ (lN n0))) := fun z => h1 ((lg_cmp_ge _ _).mpr z)
    refine lv_lload hx hb d_Ma_floorMod_13 (lv_at hl 0 rfl) ?_
    refine lv_lconst (v := lN 0) hx hb d_Ma_floorMod_15 rfl ?_
    refine W.lcmp hx hb d_Ma_floorMod_16 ?_
    refine lv_if_eq (tgt := 25) hx hb d_Ma_floorMod_17 (by decide) (fun h2 => ?_) (fun h2 => ?_)
    · skip
      have h2 : (z.tmod n0 = ((0 : Nat) : Int)) := (zc_eq (by omega) (by omega)).mp ((lg_cmp_eq _ _).mp h2)
      refine lv_lload hx hb d_Ma_floorMod_25 (lv_at hl 0 rfl) ?_
      exact zret_l C0 hr hAe hP hD hS ⟨(fm_q hn0 h2), rfl⟩ d_Ma_floorMod_27
    · skip
      have h2 : ¬ (z.tmod n0 = ((0 : Nat) : Int)) := fun z => h2 ((lg_cmp_eq _ _).mpr ((zc_eq (by omega) (by omega)).mpr z))
      refine lv_lload hx hb d_Ma_floorMod_20 (lv_at hl 0 rfl) ?_
      refine lv_lload_n hx hb d_Ma_floorMod_22 rfl (lv_at hl 2 rfl) ?_
      refine lv_ladd hx hb d_Ma_floorMod_23 ?_
      exact zret_l C0 hr hAe hP hD hS ⟨(fm_r hn0 hn1 (fun q => h1 ((fm_sg hz hn1).mpr q)) h2), rfl⟩ d_Ma_floorMod_24
end
section
set_option maxHeartbeats 4000000 in
set_option maxRecDepth 100000 in
theorem m_Pr_setStatus (l : Launch) (D : va_G) (ca : Nat → ClassId) (k : Nat → Nat) (sz : Nat) (ad : Nat → Nat) (me nu ro : Nat → Nat) (un li pt : Nat) (st : Int32) (cy pl bk en kc : Nat) (g : Nat) (hg : g < 16) : Met l y_Pr_setStatus (zw y_Pr_setStatus c_Pr_setStatus 2 none) { frames := 0, cells := 0, slots := 0, locals := 0 } (va_Pc [.ref (ad 6), .int (nI g)] (zPre D (zty ca) k (wP ad ca me nu ro un li pt st cy pl bk en kc) sz)) (va_Qv (fun w => w = wP ad ca me nu ro un li pt (sSt g st) cy pl bk en kc) (zB D (zty ca) (wP ad ca me nu ro un li pt st cy pl bk en kc) sz) (va_A (wP ad ca me nu ro un li pt st cy pl bk en kc) sz)) 0 0 (va_A (wP ad ca me nu ro un li pt st cy pl bk en kc) sz) := by
  refine zOf (own := "DigitChip$Processor") (by decide +kernel) rfl (Nat.le_of_ble_eq_true rfl) ?_
  intro p e s m below meth c A ls C0 hr hnm hAe hsz hl hP hD hS
  have hl : lv_has ls 2 [(0, .ref (ad 6)), (1, .int (nI g))] := hl
  obtain ⟨hx, hb, hml, hown, ht, hK, hX, hA, hlk⟩ := id C0
  refine lv_iload_n hx hb d_Pr_setStatus_0 rfl (lv_at hl 1 rfl) ?_
  refine lv_bipush (v := nI 12) hx hb d_Pr_setStatus_1 (by decide) ?_
  refine lv_icmp_ge (tgt := 18) hx hb d_Pr_setStatus_3 (by decide) (fun h1 => ?_) (fun h1 => ?_)
  · skip
    have h1 : (12 ≤ g) := (nI_leI (by omega) (by omega)).mp h1
    exact zret_v C0 hr hAe hP hD hS (by rw [show sSt g st = st from if_neg (by omega)]) d_Pr_setStatus_18
  · skip
    have h1 : ¬ (12 ≤ g) := fun z => h1 ((nI_leI (by omega) (by omega)).mpr z)
    refine lv_aload_n hx hb d_Pr_setStatus_6 rfl (lv_at hl 0 rfl) ?_
    refine lv_dup hx hb d_Pr_setStatus_7 rfl ?_
    refine va_get (D := D) (ci := 1) (v := .int st) (C := RPr) (T := TPr) (N := 9) hx hb ht inPr hown hK hP 0 rfl rfl 4 (by decide) (ht _ q122) (fun _ h9 => h9) rfl d_Pr_setStatus_8 ?_
    refine lv_iconst (v := nI 1) hx hb d_Pr_setStatus_11 (by decide) ?_
    refine lv_iload_n hx hb d_Pr_setStatus_12 rfl (lv_at hl 1 rfl) ?_
    refine lv_ishl hx hb d_Pr_setStatus_13 ?_
    refine lv_ior hx hb d_Pr_setStatus_14 ?_
    refine va_put (D := D) (ci := 1) (v := .int (st ||| ((nI 1) <<< ((nI g) &&& 31)))) (ty := .int) (C := RPr) (T := TPr) (N := 9) hx hb ht inPr tyPr tyPr_ok nmPr hown hK hP hD hS 0 rfl rfl 4 (by decide) (ht _ q122) (fun _ h9 => h9) rfl (by decide +kernel) rfl rfl (Nat.le_of_ble_eq_true rfl) d_Pr_setStatus_15 (fun H locs hP hD hS => ?_)
    have hP : va_P D vCl (wP ad ca me nu ro un li pt (st ||| ((nI 1) <<< ((nI g) &&& 31))) cy pl bk en kc) H := hP
    have hD : va_D A (wP ad ca me nu ro un li pt (st ||| ((nI 1) <<< ((nI g) &&& 31))) cy pl bk en kc) := hD
    exact zret_v C0 hr hAe hP hD hS (by rw [show sSt g st = _ from if_pos (by omega)]) d_Pr_setStatus_18
set_option maxHeartbeats 4000000 in
set_option maxRecDepth 100000 in
theorem m_Pr_clearStatus (l : Launch) (D : va_G) (ca : Nat → ClassId) (k : Nat → Nat) (sz : Nat) (ad : Nat → Nat) (me nu ro : Nat → Nat) (un li pt : Nat) (st : Int32) (cy pl bk en kc : Nat) (g : Nat) (hg : g < 16) : Met l y_Pr_clearStatus (zw y_Pr_clearStatus c_Pr_clearStatus 2 none) { frames := 0, cells := 0, slots := 0, locals := 0 } (va_Pc [.ref (ad 6), .int (nI g)] (zPre D (zty ca) k (wP ad ca me nu ro un li pt st cy pl bk en kc) sz)) (va_Qv (fun w => w = wP ad ca me nu ro un li pt (cSt g st) cy pl bk en kc) (zB D (zty ca) (wP ad ca me nu ro un li pt st cy pl bk en kc) sz) (va_A (wP ad ca me nu ro un li pt st cy pl bk en kc) sz)) 0 0 (va_A (wP ad ca me nu ro un li pt st cy pl bk en kc) sz) := by
  refine zOf (own := "DigitChip$Processor") (by decide +kernel) rfl (Nat.le_of_ble_eq_true rfl) ?_
  intro p e s m below meth c A ls C0 hr hnm hAe hsz hl hP hD hS
  have hl : lv_has ls 2 [(0, .ref (ad 6)), (1, .int (nI g))] := hl
  obtain ⟨hx, hb, hml, hown, ht, hK, hX, hA, hlk⟩ := id C0
  refine lv_iload_n hx hb d_Pr_clearStatus_0 rfl (lv_at hl 1 rfl) ?_
  refine lv_bipush (v := nI 12) hx hb d_Pr_clearStatus_1 (by decide) ?_
  refine lv_icmp_ge (tgt := 20) hx hb d_Pr_clearStatus_3 (by decide) (fun h1 => ?_) (fun h1 => ?_)
  · skip
    have h1 : (12 ≤ g) := (nI_leI (by omega) (by omega)).mp h1
    exact zret_v C0 hr hAe hP hD hS (by rw [show cSt g st = st from if_neg (by omega)]) d_Pr_clearStatus_20
  · skip
    have h1 : ¬ (12 ≤ g) := fun z => h1 ((nI_leI (by omega) (by omega)).mpr z)
    refine lv_aload_n hx hb d_Pr_clearStatus_6 rfl (lv_at hl 0 rfl) ?_
    refine lv_dup hx hb d_Pr_clearStatus_7 rfl ?_
    refine va_get (D := D) (ci := 1) (v := .int st) (C := RPr) (T := TPr) (N := 9) hx hb ht inPr hown hK hP 0 rfl rfl 4 (by decide) (ht _ q122) (fun _ h9 => h9) rfl d_Pr_clearStatus_8 ?_
    refine lv_iconst (v := nI 1) hx hb d_Pr_clearStatus_11 (by decide) ?_
    refine lv_iload_n hx hb d_Pr_clearStatus_12 rfl (lv_at hl 1 rfl) ?_
    refine lv_ishl hx hb d_Pr_clearStatus_13 ?_
    refine lv_iconst (v := (-1)) hx hb d_Pr_clearStatus_14 (by decide) ?_
    refine lv_ixor hx hb d_Pr_clearStatus_15 ?_
    refine lv_iand hx hb d_Pr_clearStatus_16 ?_
    refine va_put (D := D) (ci := 1) (v := .int (st &&& (((nI 1) <<< ((nI g) &&& 31)) ^^^ (-1)))) (ty := .int) (C := RPr) (T := TPr) (N := 9) hx hb ht inPr tyPr tyPr_ok nmPr hown hK hP hD hS 0 rfl rfl 4 (by decide) (ht _ q122) (fun _ h9 => h9) rfl (by decide +kernel) rfl rfl (Nat.le_of_ble_eq_true rfl) d_Pr_clearStatus_17 (fun H locs hP hD hS => ?_)
    have hP : va_P D vCl (wP ad ca me nu ro un li pt (st &&& (((nI 1) <<< ((nI g) &&& 31)) ^^^ (-1))) cy pl bk en kc) H := hP
    have hD : va_D A (wP ad ca me nu ro un li pt (st &&& (((nI 1) <<< ((nI g) &&& 31)) ^^^ (-1))) cy pl bk en kc) := hD
    exact zret_v C0 hr hAe hP hD hS (by rw [show cSt g st = _ from if_pos (by omega)]) d_Pr_clearStatus_20
set_option maxHeartbeats 4000000 in
set_option maxRecDepth 100000 in
theorem m_Pr_hasStatus (l : Launch) (D : va_G) (ca : Nat → ClassId) (k : Nat → Nat) (sz : Nat) (ad : Nat → Nat) (me nu ro : Nat → Nat) (un li pt : Nat) (st : Int32) (cy pl bk en kc : Nat) (g : Nat) (hg : g < 16) : Met l y_Pr_hasStatus (zw y_Pr_hasStatus c_Pr_hasStatus 2 (some .boolean)) { frames := 0, cells := 0, slots := 0, locals := 0 } (va_Pc [.ref (ad 6), .int (nI g)] (zPre D (zty ca) k (wP ad ca me nu ro un li pt st cy pl bk en kc) sz)) (va_Qi (fun x w => x = nI (hSt g st) ∧ w = wP ad ca me nu ro un li pt st cy pl bk en kc) (zB D (zty ca) (wP ad ca me nu ro un li pt st cy pl bk en kc) sz) (va_A (wP ad ca me nu ro un li pt st cy pl bk en kc) sz)) 0 0 (va_A (wP ad ca me nu ro un li pt st cy pl bk en kc) sz) := by
  refine zOf (own := "DigitChip$Processor") (by decide +kernel) rfl (Nat.le_of_ble_eq_true rfl) ?_
  intro p e s m below meth c A ls C0 hr hnm hAe hsz hl hP hD hS
  have hl : lv_has ls 2 [(0, .ref (ad 6)), (1, .int (nI g))] := hl
  obtain ⟨hx, hb, hml, hown, ht, hK, hX, hA, hlk⟩ := id C0
  refine lv_iload_n hx hb d_Pr_hasStatus_0 rfl (lv_at hl 1 rfl) ?_
  refine lv_bipush (v := nI 12) hx hb d_Pr_hasStatus_1 (by decide) ?_
  refine lv_icmp_ge (tgt := 22) hx hb d_Pr_hasStatus_3 (by decide) (fun h1 => ?_) (fun h1 => ?_)
  · skip
    have h1 : (12 ≤ g) := (nI_leI (by omega) (by omega)).mp h1
    refine lv_iconst (v := nI 0) hx hb d_Pr_hasStatus_22 (by decide) ?_
    exact zret_z C0 hr (zbn (by omega)) hAe hP hD hS ⟨(by rw [show hSt g st = 0 from if_neg (fun z => by omega)]), rfl⟩ d_Pr_hasStatus_23
  · skip
    have h1 : ¬ (12 ≤ g) := fun z => h1 ((nI_leI (by omega) (by omega)).mpr z)
    refine lv_aload_n hx hb d_Pr_hasStatus_6 rfl (lv_at hl 0 rfl) ?_
    refine va_get (D := D) (ci := 1) (v := .int st) (C := RPr) (T := TPr) (N := 9) hx hb ht inPr hown hK hP 0 rfl rfl 4 (by decide) (ht _ q122) (fun _ h9 => h9) rfl d_Pr_hasStatus_7 ?_
    refine lv_iload_n hx hb d_Pr_hasStatus_10 rfl (lv_at hl 1 rfl) ?_
    refine lv_ishr hx hb d_Pr_hasStatus_11 ?_
    refine lv_iconst (v := nI 1) hx hb d_Pr_hasStatus_12 (by decide) ?_
    refine lv_iand hx hb d_Pr_hasStatus_13 ?_
    refine lv_iconst (v := nI 1) hx hb d_Pr_hasStatus_14 (by decide) ?_
    refine lv_icmp_ne (tgt := 22) hx hb d_Pr_hasStatus_15 (by decide) (fun h2 => ?_) (fun h2 => ?_)
    · skip
      refine lv_iconst (v := nI 0) hx hb d_Pr_hasStatus_22 (by decide) ?_
      exact zret_z C0 hr (zbn (by omega)) hAe hP hD hS ⟨(by rw [show hSt g st = 0 from if_neg (fun z => h2 z.2)]), rfl⟩ d_Pr_hasStatus_23
    · skip
      refine lv_iconst (v := nI 1) hx hb d_Pr_hasStatus_18 (by decide) ?_
      refine lv_goto (tgt := 23) hx hb d_Pr_hasStatus_19 (by decide) ?_
      exact zret_z C0 hr (zbn (by omega)) hAe hP hD hS ⟨(by rw [show hSt g st = 1 from if_pos ⟨by omega, h2⟩]), rfl⟩ d_Pr_hasStatus_23
set_option maxHeartbeats 4000000 in
set_option maxRecDepth 100000 in
theorem m_Pr_lowerPointer (l : Launch) (D : va_G) (ca : Nat → ClassId) (k : Nat → Nat) (sz : Nat) (ad : Nat → Nat) (me nu ro : Nat → Nat) (un li pt : Nat) (st : Int32) (cy pl bk en kc : Nat) (hp : pt < 14) : Met l y_Pr_lowerPointer (zw y_Pr_lowerPointer c_Pr_lowerPointer 1 none) { frames := 0, cells := 0, slots := 0, locals := 0 } (va_Pc [.ref (ad 6)] (zPre D (zty ca) k (wP ad ca me nu ro un li pt st cy pl bk en kc) sz)) (va_Qv (fun w => w = wP ad ca me nu ro un li ((pt + 14 - 1) % 14) st cy pl bk en kc) (zB D (zty ca) (wP ad ca me nu ro un li pt st cy pl bk en kc) sz) (va_A (wP ad ca me nu ro un li pt st cy pl bk en kc) sz)) 0 0 (va_A (wP ad ca me nu ro un li pt st cy pl bk en kc) sz) := by
  refine zOf (own := "DigitChip$Processor") (by decide +kernel) rfl (Nat.le_of_ble_eq_true rfl) ?_
  intro p e s m below meth c A ls C0 hr hnm hAe hsz hl hP hD hS
  have hl : lv_has ls 1 [(0, .ref (ad 6))] := hl
  obtain ⟨hx, hb, hml, hown, ht, hK, hX, hA, hlk⟩ := id C0
  refine lv_aload_n hx hb d_Pr_lowerPointer_0 rfl (lv_at hl 0 rfl) ?_
  refine lv_aload_n hx hb d_Pr_lowerPointer_1 rfl (lv_at hl 0 rfl) ?_
  refine va_get (D := D) (ci := 1) (v := .int (nI pt)) (C := RPr) (T := TPr) (N := 9) hx hb ht inPr hown hK hP 0 rfl rfl 3 (by decide) (ht _ q120) (fun _ h9 => h9) rfl d_Pr_lowerPointer_2 ?_
  refine lv_bipush (v := nI 14) hx hb d_Pr_lowerPointer_5 (by decide) ?_
  refine lv_iadd hx hb d_Pr_lowerPointer_7 ?_
  refine zti (y := nI (pt + 14)) (nI_add _ _) ?_
  refine lv_iconst (v := nI 1) hx hb d_Pr_lowerPointer_8 (by decide) ?_
  refine lv_isub hx hb d_Pr_lowerPointer_9 ?_
  refine zti (y := nI ((pt + 14) - 1)) (pk_sub (by omega)) ?_
  refine lv_bipush (v := nI 14) hx hb d_Pr_lowerPointer_10 (by decide) ?_
  refine lv_irem hx hb d_Pr_lowerPointer_12 (nI_ne0 (by omega) (by omega)) ?_
  refine zti (y := nI (((pt + 14) - 1) % 14)) (pk_rem (by omega) (by omega) (by omega)) ?_
  refine va_put (D := D) (ci := 1) (v := .int (nI (((pt + 14) - 1) % 14))) (ty := .int) (C := RPr) (T := TPr) (N := 9) hx hb ht inPr tyPr tyPr_ok nmPr hown hK hP hD hS 0 rfl rfl 3 (by decide) (ht _ q120) (fun _ h9 => h9) rfl (by decide +kernel) rfl rfl (Nat.le_of_ble_eq_true rfl) d_Pr_lowerPointer_13 (fun H locs hP hD hS => ?_)
  have hP : va_P D vCl (wP ad ca me nu ro un li (((pt + 14) - 1) % 14) st cy pl bk en kc) H := hP
  have hD : va_D A (wP ad ca me nu ro un li (((pt + 14) - 1) % 14) st cy pl bk en kc) := hD
  exact zret_v C0 hr hAe hP hD hS rfl d_Pr_lowerPointer_16
set_option maxHeartbeats 4000000 in
set_option maxRecDepth 100000 in
theorem m_Pr_copy (l : Launch) (D : va_G) (ca : Nat → ClassId) (k : Nat → Nat) (sz : Nat) (ad : Nat → Nat) (me nu ro : Nat → Nat) (un li pt : Nat) (st : Int32) (cy pl bk en kc : Nat) (a0 b0 : Nat) (ha0 : a0 < 7) (hb0 : b0 < 7) : Met l y_Pr_copy (zw y_Pr_copy c_Pr_copy 3 none) { frames := 0, cells := 0, slots := 0, locals := 0 } (va_Pc [.ref (ad 6), .int (nI a0), .int (nI b0)] (zPre D (zty ca) k (wP ad ca me nu ro un li pt st cy pl bk en kc) sz)) (va_Qv (fun w => w = wP ad ca me (cpN nu a0 b0) ro un li pt st cy pl bk en kc) (zB D (zty ca) (wP ad ca me nu ro un li pt st cy pl bk en kc) sz) (va_A (wP ad ca me nu ro un li pt st cy pl bk en kc) sz)) 0 0 (va_A (wP ad ca me nu ro un li pt st cy pl bk en kc) sz) := by
  refine zOf (own := "DigitChip$Processor") (by decide +kernel) rfl (Nat.le_of_ble_eq_true rfl) ?_
  intro p e s m below meth c A ls C0 hr hnm hAe hsz hl hP hD hS
  have hl : lv_has ls 3 [(0, .ref (ad 6)), (1, .int (nI a0)), (2, .int (nI b0))] := hl
  obtain ⟨hx, hb, hml, hown, ht, hK, hX, hA, hlk⟩ := id C0
  refine lv_aload_n hx hb d_Pr_copy_0 rfl (lv_at hl 0 rfl) ?_
  refine va_get (D := D) (ci := 1) (v := .ref (ad 8)) (C := RPr) (T := TPr) (N := 9) hx hb ht inPr hown hK hP 0 rfl rfl 1 (by decide) (ht _ q116) (fun _ h9 => h9) rfl d_Pr_copy_1 ?_
  refine va_get (D := D) (ci := 2) (v := .ref (ad 9)) (C := RRe) (T := TRe) (N := 3) hx hb ht inRe hown hK hP 2 rfl rfl 0 (by decide) (ht _ q88) (fun _ h9 => h9) rfl d_Pr_copy_4 ?_
  refine lv_iload_n hx hb d_Pr_copy_7 rfl (lv_at hl 2 rfl) ?_
  refine lv_aload_n hx hb d_Pr_copy_8 rfl (lv_at hl 0 rfl) ?_
  refine va_get (D := D) (ci := 1) (v := .ref (ad 8)) (C := RPr) (T := TPr) (N := 9) hx hb ht inPr hown hK hP 0 rfl rfl 1 (by decide) (ht _ q116) (fun _ h9 => h9) rfl d_Pr_copy_9 ?_
  refine va_get (D := D) (ci := 2) (v := .ref (ad 9)) (C := RRe) (T := TRe) (N := 3) hx hb ht inRe hown hK hP 2 rfl rfl 0 (by decide) (ht _ q88) (fun _ h9 => h9) rfl d_Pr_copy_12 ?_
  refine lv_iload_n hx hb d_Pr_copy_15 rfl (lv_at hl 1 rfl) ?_
  refine va_lald hx hb hK hP 3 1 rfl rfl (vp_in_nI (n := a0) (by omega) (by decide)) d_Pr_copy_16 ?_
  refine ztl (y := lN (nu a0)) (lF_at (by omega)) ?_
  refine va_last hx hb hK hP hD hS 3 1 rfl rfl (vp_in_nI (n := b0) (by omega) (by decide)) d_Pr_copy_17 (fun H locs hP hD hS => ?_)
  rw [lF_up (by omega)] at hP hD
  have hP : va_P D vCl (wP ad ca me (uN nu b0 (nu a0)) ro un li pt st cy pl bk en kc) H := hP
  have hD : va_D A (wP ad ca me (uN nu b0 (nu a0)) ro un li pt st cy pl bk en kc) := hD
  exact zret_v C0 hr hAe hP hD hS rfl d_Pr_copy_18
set_option maxHeartbeats 4000000 in
set_option maxRecDepth 100000 in
theorem m_Pr_push (l : Launch) (D : va_G) (ca : Nat → ClassId) (k : Nat → Nat) (sz : Nat) (ad : Nat → Nat) (me nu ro : Nat → Nat) (un li pt : Nat) (st : Int32) (cy pl bk en kc : Nat)  : Met l y_Pr_push (zw y_Pr_push c_Pr_push 1 none) { frames := 1, cells := 0, slots := 0, locals := 22 } (va_Pc [.ref (ad 6)] (zPre D (zty ca) k (wP ad ca me nu ro un li pt st cy pl bk en kc) sz)) (va_Qv (fun w => w = wP ad ca me (cpN (cpN (cpN nu 4 5) 3 4) 2 3) ro un li pt st cy pl bk en kc) (zB D (zty ca) (wP ad ca me nu ro un li pt st cy pl bk en kc) sz) (va_A (wP ad ca me nu ro un li pt st cy pl bk en kc) sz)) 0 0 (va_A (wP ad ca me nu ro un li pt st cy pl bk en kc) sz) := by
  refine zOf (own := "DigitChip$Processor") (by decide +kernel) rfl (Nat.le_of_ble_eq_true rfl) ?_
  intro p e s m below meth c A ls C0 hr hnm hAe hsz hl hP hD hS
  have hl : lv_has ls 1 [(0, .ref (ad 6))] := hl
  obtain ⟨hx, hb, hml, hown, ht, hK, hX, hA, hlk⟩ := id C0
  refine lv_aload_n hx hb d_Pr_push_0 rfl (lv_at hl 0 rfl) ?_
  refine lv_iconst (v := nI 4) hx hb d_Pr_push_1 (by decide) ?_
  refine lv_iconst (v := nI 5) hx hb d_Pr_push_2 (by decide) ?_
  refine zgo_v (wr := []) C0 (zrunV (na := 2) (As := [.int (nI 4), .int (nI 5)]) (rest := []) C0 hP hD hS [0, 1, 2, 3, 4, 5] rfl rfl (m_Pr_copy l D ca k s.heap.size ad me nu ro un li pt st cy pl bk en kc 4 5 (by omega) (by omega)) (zg_V q506 q508 q818 q4 q509) (by decide +kernel) rfl rfl ⟨by decide, by decide⟩ 0 rfl rfl rfl hl.1 rfl (Nat.le_of_ble_eq_true rfl) d_Pr_push_3 ⟨Nat.zero_le _, Nat.zero_le _⟩) hP hD hS [0, 1, 2, 3, 4, 5] [] rfl rfl (by decide) (by decide) (fun w1 H locs hw hP hD hS => ?_)
  obtain rfl := hw
  have hP : va_P D vCl (wP ad ca me (cpN nu 4 5) ro un li pt st cy pl bk en kc) H := hP
  have hD : va_D A (wP ad ca me (cpN nu 4 5) ro un li pt st cy pl bk en kc) := hD
  refine lv_aload_n hx hb d_Pr_push_6 rfl (lv_at hl 0 rfl) ?_
  refine lv_iconst (v := nI 3) hx hb d_Pr_push_7 (by decide) ?_
  refine lv_iconst (v := nI 4) hx hb d_Pr_push_8 (by decide) ?_
  refine zgo_v (wr := []) C0 (zrunV (na := 2) (As := [.int (nI 3), .int (nI 4)]) (rest := []) C0 hP hD hS [0, 1, 2, 3, 4, 5] rfl rfl (m_Pr_copy l D ca k H.size ad me (cpN nu 4 5) ro un li pt st cy pl bk en kc 3 4 (by omega) (by omega)) (zg_V q506 q508 q818 q4 q509) (by decide +kernel) rfl rfl ⟨by decide, by decide⟩ 0 rfl rfl rfl hl.1 rfl (Nat.le_of_ble_eq_true rfl) d_Pr_push_9 ⟨Nat.zero_le _, Nat.zero_le _⟩) hP hD hS [0, 1, 2, 3, 4, 5] [] rfl rfl (by decide) (by decide) (fun w1 H locs hw hP hD hS => ?_)
  obtain rfl := hw
  have hP : va_P D vCl (wP ad ca me (cpN (cpN nu 4 5) 3 4) ro un li pt st cy pl bk en kc) H := hP
  have hD : va_D A (wP ad ca me (cpN (cpN nu 4 5) 3 4) ro un li pt st cy pl bk en kc) := hD
  refine lv_aload_n hx hb d_Pr_push_12 rfl (lv_at hl 0 rfl) ?_
  refine lv_iconst (v := nI 2) hx hb d_Pr_push_13 (by decide) ?_
  refine lv_iconst (v := nI 3) hx hb d_Pr_push_14 (by decide) ?_
  refine zgo_v (wr := []) C0 (zrunV (na := 2) (As := [.int (nI 2), .int (nI 3)]) (rest := []) C0 hP hD hS [0, 1, 2, 3, 4, 5] rfl rfl (m_Pr_copy l D ca k H.size ad me (cpN (cpN nu 4 5) 3 4) ro un li pt st cy pl bk en kc 2 3 (by omega) (by omega)) (zg_V q506 q508 q818 q4 q509) (by decide +kernel) rfl rfl ⟨by decide, by decide⟩ 0 rfl rfl rfl hl.1 rfl (Nat.le_of_ble_eq_true rfl) d_Pr_push_15 ⟨Nat.zero_le _, Nat.zero_le _⟩) hP hD hS [0, 1, 2, 3, 4, 5] [] rfl rfl (by decide) (by decide) (fun w1 H locs hw hP hD hS => ?_)
  obtain rfl := hw
  have hP : va_P D vCl (wP ad ca me (cpN (cpN (cpN nu 4 5) 3 4) 2 3) ro un li pt st cy pl bk en kc) H := hP
  have hD : va_D A (wP ad ca me (cpN (cpN (cpN nu 4 5) 3 4) 2 3) ro un li pt st cy pl bk en kc) := hD
  exact zret_v C0 hr hAe hP hD hS rfl d_Pr_push_18
set_option maxHeartbeats 4000000 in
set_option maxRecDepth 100000 in
theorem m_Pr_lowerStack (l : Launch) (D : va_G) (ca : Nat → ClassId) (k : Nat → Nat) (sz : Nat) (ad : Nat → Nat) (me nu ro : Nat → Nat) (un li pt : Nat) (st : Int32) (cy pl bk en kc : Nat)  : Met l y_Pr_lowerStack (zw y_Pr_lowerStack c_Pr_lowerStack 1 none) { frames := 1, cells := 0, slots := 0, locals := 22 } (va_Pc [.ref (ad 6)] (zPre D (zty ca) k (wP ad ca me nu ro un li pt st cy pl bk en kc) sz)) (va_Qv (fun w => w = wP ad ca me (cpN (cpN nu 4 3) 5 4) ro un li pt st cy pl bk en kc) (zB D (zty ca) (wP ad ca me nu ro un li pt st cy pl bk en kc) sz) (va_A (wP ad ca me nu ro un li pt st cy pl bk en kc) sz)) 0 0 (va_A (wP ad ca me nu ro un li pt st cy pl bk en kc) sz) := by
  refine zOf (own := "DigitChip$Processor") (by decide +kernel) rfl (Nat.le_of_ble_eq_true rfl) ?_
  intro p e s m below meth c A ls C0 hr hnm hAe hsz hl hP hD hS
  have hl : lv_has ls 1 [(0, .ref (ad 6))] := hl
  obtain ⟨hx, hb, hml, hown, ht, hK, hX, hA, hlk⟩ := id C0
  refine lv_aload_n hx hb d_Pr_lowerStack_0 rfl (lv_at hl 0 rfl) ?_
  refine lv_iconst (v := nI 4) hx hb d_Pr_lowerStack_1 (by decide) ?_
  refine lv_iconst (v := nI 3) hx hb d_Pr_lowerStack_2 (by decide) ?_
  refine zgo_v (wr := []) C0 (zrunV (na := 2) (As := [.int (nI 4), .int (nI 3)]) (rest := []) C0 hP hD hS [0, 1, 2, 3, 4, 5] rfl rfl (m_Pr_copy l D ca k s.heap.size ad me nu ro un li pt st cy pl bk en kc 4 3 (by omega) (by omega)) (zg_V q506 q508 q818 q4 q509) (by decide +kernel) rfl rfl ⟨by decide, by decide⟩ 0 rfl rfl rfl hl.1 rfl (Nat.le_of_ble_eq_true rfl) d_Pr_lowerStack_3 ⟨Nat.zero_le _, Nat.zero_le _⟩) hP hD hS [0, 1, 2, 3, 4, 5] [] rfl rfl (by decide) (by decide) (fun w1 H locs hw hP hD hS => ?_)
  obtain rfl := hw
  have hP : va_P D vCl (wP ad ca me (cpN nu 4 3) ro un li pt st cy pl bk en kc) H := hP
  have hD : va_D A (wP ad ca me (cpN nu 4 3) ro un li pt st cy pl bk en kc) := hD
  refine lv_aload_n hx hb d_Pr_lowerStack_6 rfl (lv_at hl 0 rfl) ?_
  refine lv_iconst (v := nI 5) hx hb d_Pr_lowerStack_7 (by decide) ?_
  refine lv_iconst (v := nI 4) hx hb d_Pr_lowerStack_8 (by decide) ?_
  refine zgo_v (wr := []) C0 (zrunV (na := 2) (As := [.int (nI 5), .int (nI 4)]) (rest := []) C0 hP hD hS [0, 1, 2, 3, 4, 5] rfl rfl (m_Pr_copy l D ca k H.size ad me (cpN nu 4 3) ro un li pt st cy pl bk en kc 5 4 (by omega) (by omega)) (zg_V q506 q508 q818 q4 q509) (by decide +kernel) rfl rfl ⟨by decide, by decide⟩ 0 rfl rfl rfl hl.1 rfl (Nat.le_of_ble_eq_true rfl) d_Pr_lowerStack_9 ⟨Nat.zero_le _, Nat.zero_le _⟩) hP hD hS [0, 1, 2, 3, 4, 5] [] rfl rfl (by decide) (by decide) (fun w1 H locs hw hP hD hS => ?_)
  obtain rfl := hw
  have hP : va_P D vCl (wP ad ca me (cpN (cpN nu 4 3) 5 4) ro un li pt st cy pl bk en kc) H := hP
  have hD : va_D A (wP ad ca me (cpN (cpN nu 4 3) 5 4) ro un li pt st cy pl bk en kc) := hD
  exact zret_v C0 hr hAe hP hD hS rfl d_Pr_lowerStack_12
set_option maxHeartbeats 4000000 in
set_option maxRecDepth 100000 in
theorem m_Pr_exchangeMemory (l : Launch) (D : va_G) (ca : Nat → ClassId) (k : Nat → Nat) (sz : Nat) (ad : Nat → Nat) (me nu ro : Nat → Nat) (un li pt : Nat) (st : Int32) (cy pl bk en kc : Nat)  : Met l y_Pr_exchangeMemory (zw y_Pr_exchangeMemory c_Pr_exchangeMemory 3 none) { frames := 1, cells := 0, slots := 0, locals := 22 } (va_Pc [.ref (ad 6)] (zPre D (zty ca) k (wP ad ca me nu ro un li pt st cy pl bk en kc) sz)) (va_Qv (fun w => w = wP ad ca me (uN (cpN nu 6 2) 6 (nu 2)) ro un li pt st cy pl bk en kc) (zB D (zty ca) (wP ad ca me nu ro un li pt st cy pl bk en kc) sz) (va_A (wP ad ca me nu ro un li pt st cy pl bk en kc) sz)) 0 0 (va_A (wP ad ca me nu ro un li pt st cy pl bk en kc) sz) := by
  refine zOf (own := "DigitChip$Processor") (by decide +kernel) rfl (Nat.le_of_ble_eq_true rfl) ?_
  intro p e s m below meth c A ls C0 hr hnm hAe hsz hl hP hD hS
  have hl : lv_has ls 3 [(0, .ref (ad 6))] := hl
  obtain ⟨hx, hb, hml, hown, ht, hK, hX, hA, hlk⟩ := id C0
  refine lv_aload_n hx hb d_Pr_exchangeMemory_0 rfl (lv_at hl 0 rfl) ?_
  refine va_get (D := D) (ci := 1) (v := .ref (ad 8)) (C := RPr) (T := TPr) (N := 9) hx hb ht inPr hown hK hP 0 rfl rfl 1 (by decide) (ht _ q116) (fun _ h9 => h9) rfl d_Pr_exchangeMemory_1 ?_
  refine va_get (D := D) (ci := 2) (v := .ref (ad 9)) (C := RRe) (T := TRe) (N := 3) hx hb ht inRe hown hK hP 2 rfl rfl 0 (by decide) (ht _ q88) (fun _ h9 => h9) rfl d_Pr_exchangeMemory_4 ?_
  refine lv_iconst (v := nI 2) hx hb d_Pr_exchangeMemory_7 (by decide) ?_
  refine va_lald hx hb hK hP 3 1 rfl rfl (vp_in_nI (n := 2) (by omega) (by decide)) d_Pr_exchangeMemory_8 ?_
  refine ztl (y := lN (nu 2)) (lF_at (by omega)) ?_
  refine lv_lstore_n hx hb d_Pr_exchangeMemory_9 rfl hl (by decide) rfl (fun ls hl => ?_)
  have hl : lv_has ls 3 [(1, .long (lN (nu 2))), (0, .ref (ad 6))] := hl
  refine lv_aload_n hx hb d_Pr_exchangeMemory_10 rfl (lv_at hl 1 rfl) ?_
  refine lv_bipush (v := nI 6) hx hb d_Pr_exchangeMemory_11 (by decide) ?_
  refine lv_iconst (v := nI 2) hx hb d_Pr_exchangeMemory_13 (by decide) ?_
  refine zgo_v (wr := []) C0 (zrunV (na := 2) (As := [.int (nI 6), .int (nI 2)]) (rest := []) C0 hP hD hS [0, 1, 2, 3, 4, 5] rfl rfl (m_Pr_copy l D ca k s.heap.size ad me nu ro un li pt st cy pl bk en kc 6 2 (by omega) (by omega)) (zg_V q506 q508 q818 q4 q509) (by decide +kernel) rfl rfl ⟨by decide, by decide⟩ 0 rfl rfl rfl hl.1 rfl (Nat.le_of_ble_eq_true rfl) d_Pr_exchangeMemory_14 ⟨Nat.zero_le _, Nat.zero_le _⟩) hP hD hS [0, 1, 2, 3, 4, 5] [] rfl rfl (by decide) (by decide) (fun w1 H locs hw hP hD hS => ?_)
  obtain rfl := hw
  have hP : va_P D vCl (wP ad ca me (cpN nu 6 2) ro un li pt st cy pl bk en kc) H := hP
  have hD : va_D A (wP ad ca me (cpN nu 6 2) ro un li pt st cy pl bk en kc) := hD
  refine lv_aload_n hx hb d_Pr_exchangeMemory_17 rfl (lv_at hl 1 rfl) ?_
  refine va_get (D := D) (ci := 1) (v := .ref (ad 8)) (C := RPr) (T := TPr) (N := 9) hx hb ht inPr hown hK hP 0 rfl rfl 1 (by decide) (ht _ q116) (fun _ h9 => h9) rfl d_Pr_exchangeMemory_18 ?_
  refine va_get (D := D) (ci := 2) (v := .ref (ad 9)) (C := RRe) (T := TRe) (N := 3) hx hb ht inRe hown hK hP 2 rfl rfl 0 (by decide) (ht _ q88) (fun _ h9 => h9) rfl d_Pr_exchangeMemory_21 ?_
  refine lv_bipush (v := nI 6) hx hb d_Pr_exchangeMemory_24 (by decide) ?_
  refine lv_lload_n hx hb d_Pr_exchangeMemory_26 rfl (lv_at hl 0 rfl) ?_
  refine va_last hx hb hK hP hD hS 3 1 rfl rfl (vp_in_nI (n := 6) (by omega) (by decide)) d_Pr_exchangeMemory_27 (fun H locs hP hD hS => ?_)
  rw [lF_up (by omega)] at hP hD
  have hP : va_P D vCl (wP ad ca me (uN (cpN nu 6 2) 6 (nu 2)) ro un li pt st cy pl bk en kc) H := hP
  have hD : va_D A (wP ad ca me (uN (cpN nu 6 2) 6 (nu 2)) ro un li pt st cy pl bk en kc) := hD
  exact zret_v C0 hr hAe hP hD hS rfl d_Pr_exchangeMemory_28
set_option maxHeartbeats 4000000 in
set_option maxRecDepth 100000 in
theorem m_Pr_putDigit (l : Launch) (D : va_G) (ca : Nat → ClassId) (k : Nat → Nat) (sz : Nat) (ad : Nat → Nat) (me nu ro : Nat → Nat) (un li pt : Nat) (st : Int32) (cy pl bk en kc : Nat) (g : Nat) (hg : g < 16) (hp : pt < 14) (hn : ∀ j, nu j < 10 ^ 14) : Met l y_Pr_putDigit (zw y_Pr_putDigit c_Pr_putDigit 2 none) { frames := 2, cells := 0, slots := 0, locals := 44 } (va_Pc [.ref (ad 6), .int (nI g)] (zPre D (zty ca) k (wP ad ca me nu ro un li pt st cy pl bk en kc) sz)) (va_Qv (fun w => w = wP ad ca me (wr (fU pt 0) (fL pt 0) nu 2 g) ro (fU pt 0) (fL pt 0) ((pt + 14 - 1) % 14) st cy pl bk en kc) (zB D (zty ca) (wP ad ca me nu ro un li pt st cy pl bk en kc) sz) (va_A (wP ad ca me nu ro un li pt st cy pl bk en kc) sz)) 0 0 (va_A (wP ad ca me nu ro un li pt st cy pl bk en kc) sz) := by
  refine zOf (own := "DigitChip$Processor") (by decide +kernel) rfl (Nat.le_of_ble_eq_true rfl) ?_
  intro p e s m below meth c A ls C0 hr hnm hAe hsz hl hP hD hS
  have hl : lv_has ls 2 [(0, .ref (ad 6)), (1, .int (nI g))] := hl
  obtain ⟨hx, hb, hml, hown, ht, hK, hX, hA, hlk⟩ := id C0
  refine lv_aload_n hx hb d_Pr_putDigit_0 rfl (lv_at hl 0 rfl) ?_
  refine va_get (D := D) (ci := 1) (v := .ref (ad 8)) (C := RPr) (T := TPr) (N := 9) hx hb ht inPr hown hK hP 0 rfl rfl 1 (by decide) (ht _ q116) (fun _ h9 => h9) rfl d_Pr_putDigit_1 ?_
  refine lv_iconst (v := nI 0) hx hb d_Pr_putDigit_4 (by decide) ?_
  refine lv_aload_n hx hb d_Pr_putDigit_5 rfl (lv_at hl 0 rfl) ?_
  refine va_get (D := D) (ci := 1) (v := .int (nI pt)) (C := RPr) (T := TPr) (N := 9) hx hb ht inPr hown hK hP 0 rfl rfl 3 (by decide) (ht _ q120) (fun _ h9 => h9) rfl d_Pr_putDigit_6 ?_
  refine zgo_v (wr := []) C0 (zrunV (na := 2) (As := [.int (nI 0), .int (nI pt)]) (rest := []) C0 hP hD hS [0, 1, 2, 3, 4, 5] rfl rfl (m_Re_chooseField l D ca k s.heap.size ad me nu ro un li pt st cy pl bk en kc 0 pt (by omega) (by omega)) (zg_V q482 q483 q484 q5 q485) (by decide +kernel) rfl rfl ⟨by decide, by decide⟩ 2 rfl rfl rfl hl.1 rfl (Nat.le_of_ble_eq_true rfl) d_Pr_putDigit_9 ⟨Nat.zero_le _, Nat.zero_le _⟩) hP hD hS [0, 1, 2, 3, 4, 5] [] rfl rfl (by decide) (by decide) (fun w1 H locs hw hP hD hS => ?_)
  obtain rfl := hw
  have hP : va_P D vCl (wP ad ca me nu ro (fU pt 0) (fL pt 0) pt st cy pl bk en kc) H := hP
  have hD : va_D A (wP ad ca me nu ro (fU pt 0) (fL pt 0) pt st cy pl bk en kc) := hD
  refine lv_aload_n hx hb d_Pr_putDigit_12 rfl (lv_at hl 0 rfl) ?_
  refine va_get (D := D) (ci := 1) (v := .ref (ad 8)) (C := RPr) (T := TPr) (N := 9) hx hb ht inPr hown hK hP 0 rfl rfl 1 (by decide) (ht _ q116) (fun _ h9 => h9) rfl d_Pr_putDigit_13 ?_
  refine lv_iconst (v := nI 2) hx hb d_Pr_putDigit_16 (by decide) ?_
  refine lv_iload_n hx hb d_Pr_putDigit_17 rfl (lv_at hl 1 rfl) ?_
  refine lv_i2l (v := lN g) hx hb d_Pr_putDigit_18 (nI_l (by omega)) ?_
  refine zgo_v (wr := []) C0 (zrunV (na := 2) (As := [.int (nI 2), .long (lN g)]) (rest := []) C0 hP hD hS [0, 1, 2, 3, 4, 5] rfl rfl (m_Re_putPart l D ca k H.size ad me nu ro (fU pt 0) (fL pt 0) pt st cy pl bk en kc 2 g (by omega) hn (fU_pos _ _) (fU_le hp) (fL_pos _ _) (fL_le hp)) (zg_V q490 q491 q492 q5 q493) (by decide +kernel) rfl rfl ⟨by decide, by decide⟩ 2 rfl rfl rfl hl.1 rfl (Nat.le_of_ble_eq_true rfl) d_Pr_putDigit_19 ⟨Nat.zero_le _, Nat.zero_le _⟩) hP hD hS [0, 1, 2, 3, 4, 5] [] rfl rfl (by decide) (by decide) (fun w1 H locs hw hP hD hS => ?_)
  obtain rfl := hw
  have hP : va_P D vCl (wP ad ca me (wr (fU pt 0) (fL pt 0) nu 2 g) ro (fU pt 0) (fL pt 0) pt st cy pl bk en kc) H := hP
  have hD : va_D A (wP ad ca me (wr (fU pt 0) (fL pt 0) nu 2 g) ro (fU pt 0) (fL pt 0) pt st cy pl bk en kc) := hD
  refine lv_aload_n hx hb d_Pr_putDigit_22 rfl (lv_at hl 0 rfl) ?_
  refine zgo_v (wr := []) C0 (zrunV (na := 0) (As := []) (rest := []) C0 hP hD hS [0, 1, 2, 3, 4, 5] rfl rfl (m_Pr_lowerPointer l D ca k H.size ad me (wr (fU pt 0) (fL pt 0) nu 2 g) ro (fU pt 0) (fL pt 0) pt st cy pl bk en kc (by omega)) (zg_V q498 q500 q816 q4 q501) (by decide +kernel) rfl rfl ⟨by decide, by decide⟩ 0 rfl rfl rfl hl.1 rfl (Nat.le_of_ble_eq_true rfl) d_Pr_putDigit_23 ⟨Nat.zero_le _, Nat.zero_le _⟩) hP hD hS [0, 1, 2, 3, 4, 5] [] rfl rfl (by decide) (by decide) (fun w1 H locs hw hP hD hS => ?_)
  obtain rfl := hw
  have hP : va_P D vCl (wP ad ca me (wr (fU pt 0) (fL pt 0) nu 2 g) ro (fU pt 0) (fL pt 0) ((pt + 14 - 1) % 14) st cy pl bk en kc) H := hP
  have hD : va_D A (wP ad ca me (wr (fU pt 0) (fL pt 0) nu 2 g) ro (fU pt 0) (fL pt 0) ((pt + 14 - 1) % 14) st cy pl bk en kc) := hD
  exact zret_v C0 hr hAe hP hD hS rfl d_Pr_putDigit_26
set_option maxHeartbeats 4000000 in
set_option maxRecDepth 100000 in
theorem m_Pr_takeKey (l : Launch) (D : va_G) (ca : Nat → ClassId) (k : Nat → Nat) (sz : Nat) (ad : Nat → Nat) (me nu ro : Nat → Nat) (un li pt : Nat) (st : Int32) (cy pl bk en kc : Nat) (hp : pl < 64) (hk3 : kc ≤ 3) (hro : ∀ j, ro j < 16) : Met l y_Pr_takeKey (zw y_Pr_takeKey c_Pr_takeKey 2 none) { frames := 1, cells := 0, slots := 0, locals := 22 } (va_Pc [.ref (ad 6)] (zPre D (zty ca) k (wP ad ca me nu ro un li pt st cy pl bk en kc) sz)) (va_Qv (fun w => (kc = 0 ∧ w = wP ad ca me nu ro un li pt st cy ((pl + 64 - 1) % 64) bk 1 kc) ∨ (0 < kc ∧ w = wP ad ca me nu (shC ro kc) un li pt st cy (ro 0 * 8 % 64) bk en (kc - 1))) (zB D (zty ca) (wP ad ca me nu ro un li pt st cy pl bk en kc) sz) (va_A (wP ad ca me nu ro un li pt st cy pl bk en kc) sz)) 0 0 (va_A (wP ad ca me nu ro un li pt st cy pl bk en kc) sz) := by
  refine zOf (own := "DigitChip$Processor") (by decide +kernel) rfl (Nat.le_of_ble_eq_true rfl) ?_
  intro p e s m below meth c A ls C0 hr hnm hAe hsz hl hP hD hS
  have hl : lv_has ls 2 [(0, .ref (ad 6))] := hl
  obtain ⟨hx, hb, hml, hown, ht, hK, hX, hA, hlk⟩ := id C0
  have hr0 := hro 0
  refine lv_aload_n hx hb d_Pr_takeKey_0 rfl (lv_at hl 0 rfl) ?_
  refine va_get (D := D) (ci := 1) (v := .ref (ad 10)) (C := RPr) (T := TPr) (N := 9) hx hb ht inPr hown hK hP 0 rfl rfl 2 (by decide) (ht _ q118) (fun _ h9 => h9) rfl d_Pr_takeKey_1 ?_
  refine zgo_i (wr := []) C0 (zrunV (na := 0) (As := []) (rest := []) C0 hP hD hS [0, 1, 2, 3, 4, 5] rfl rfl (m_Wa_takeFirst l D ca k s.heap.size ad me nu ro un li pt st cy pl bk en kc (by omega)) (zg_V q518 q519 q520 q6 q521) (by decide +kernel) rfl rfl ⟨by decide, by decide⟩ 4 rfl rfl rfl hl.1 rfl (Nat.le_of_ble_eq_true rfl) d_Pr_takeKey_4 ⟨Nat.zero_le _, Nat.zero_le _⟩) hP hD hS [0, 1, 2, 3, 4, 5] [] rfl rfl (by decide) (by decide) (fun r1 w1 H locs hw hP hD hS => ?_)
  rcases hw with ⟨hk1, rfl, rfl⟩ | ⟨hk1, rfl, rfl⟩
  · skip
    have hP : va_P D vCl (wP ad ca me nu ro un li pt st cy pl bk en kc) H := hP
    have hD : va_D A (wP ad ca me nu ro un li pt st cy pl bk en kc) := hD
    refine lv_istore_n hx hb d_Pr_takeKey_7 rfl hl (by decide) rfl (fun ls hl => ?_)
    have hl : lv_has ls 2 [(1, .int (-1)), (0, .ref (ad 6))] := hl
    refine lv_iload_n hx hb d_Pr_takeKey_8 rfl (lv_at hl 0 rfl) ?_
    refine lv_iconst (v := (-1)) hx hb d_Pr_takeKey_9 (by decide) ?_
    refine lv_icmp_ne (tgt := 37) hx hb d_Pr_takeKey_10 (by decide) (fun h2 => (h2 rfl).elim) (fun _ => ?_)
    refine lv_aload_n hx hb d_Pr_takeKey_13 rfl (lv_at hl 1 rfl) ?_
    refine lv_aload_n hx hb d_Pr_takeKey_14 rfl (lv_at hl 1 rfl) ?_
    refine va_get (D := D) (ci := 1) (v := .int (nI pl)) (C := RPr) (T := TPr) (N := 9) hx hb ht inPr hown hK hP 0 rfl rfl 6 (by decide) (ht _ q126) (fun _ h9 => h9) rfl d_Pr_takeKey_15 ?_
    refine lv_bipush (v := nI 64) hx hb d_Pr_takeKey_18 (by decide) ?_
    refine lv_iadd hx hb d_Pr_takeKey_20 ?_
    refine zti (y := nI (pl + 64)) (nI_add _ _) ?_
    refine lv_iconst (v := nI 1) hx hb d_Pr_takeKey_21 (by decide) ?_
    refine lv_isub hx hb d_Pr_takeKey_22 ?_
    refine zti (y := nI ((pl + 64) - 1)) (pk_sub (by omega)) ?_
    refine lv_bipush (v := nI 64) hx hb d_Pr_takeKey_23 (by decide) ?_
    refine lv_irem hx hb d_Pr_takeKey_25 (nI_ne0 (by omega) (by omega)) ?_
    refine zti (y := nI (((pl + 64) - 1) % 64)) (pk_rem (by omega) (by omega) (by omega)) ?_
    refine va_put (D := D) (ci := 1) (v := .int (nI (((pl + 64) - 1) % 64))) (ty := .int) (C := RPr) (T := TPr) (N := 9) hx hb ht inPr tyPr tyPr_ok nmPr hown hK hP hD hS 0 rfl rfl 6 (by decide) (ht _ q126) (fun _ h9 => h9) rfl (by decide +kernel) rfl rfl (Nat.le_of_ble_eq_true rfl) d_Pr_takeKey_26 (fun H locs hP hD hS => ?_)
    have hP : va_P D vCl (wP ad ca me nu ro un li pt st cy (((pl + 64) - 1) % 64) bk en kc) H := hP
    have hD : va_D A (wP ad ca me nu ro un li pt st cy (((pl + 64) - 1) % 64) bk en kc) := hD
    refine lv_aload_n hx hb d_Pr_takeKey_29 rfl (lv_at hl 1 rfl) ?_
    refine lv_iconst (v := nI 1) hx hb d_Pr_takeKey_30 (by decide) ?_
    refine va_put (D := D) (ci := 1) (v := .int (nI 1)) (ty := .boolean) (C := RPr) (T := TPr) (N := 9) hx hb ht inPr tyPr tyPr_ok nmPr hown hK hP hD hS 0 rfl rfl 8 (by decide) (ht _ q130) (fun _ h9 => h9) rfl (by decide +kernel) (zbn (by omega)) (zbf (by omega)) (Nat.le_of_ble_eq_true rfl) d_Pr_takeKey_31 (fun H locs hP hD hS => ?_)
    have hP : va_P D vCl (wP ad ca me nu ro un li pt st cy (((pl + 64) - 1) % 64) bk 1 kc) H := hP
    have hD : va_D A (wP ad ca me nu ro un li pt st cy (((pl + 64) - 1) % 64) bk 1 kc) := hD
    refine lv_goto (tgt := 48) hx hb d_Pr_takeKey_34 (by decide) ?_
    exact zret_v C0 hr hAe hP hD hS (Or.inl ⟨hk1, rfl⟩) d_Pr_takeKey_48
  · skip
    have hP : va_P D vCl (wP ad ca me nu (shC ro kc) un li pt st cy pl bk en (kc - 1)) H := hP
    have hD : va_D A (wP ad ca me nu (shC ro kc) un li pt st cy pl bk en (kc - 1)) := hD
    refine lv_istore_n hx hb d_Pr_takeKey_7 rfl hl (by decide) rfl (fun ls hl => ?_)
    have hl : lv_has ls 2 [(1, .int (nI (ro 0))), (0, .ref (ad 6))] := hl
    refine lv_iload_n hx hb d_Pr_takeKey_8 rfl (lv_at hl 0 rfl) ?_
    refine lv_iconst (v := (-1)) hx hb d_Pr_takeKey_9 (by decide) ?_
    refine lv_icmp_ne (tgt := 37) hx hb d_Pr_takeKey_10 (by decide) (fun _ => ?_) (fun h3 => (zm1 (by omega) h3).elim)
    refine lv_aload_n hx hb d_Pr_takeKey_37 rfl (lv_at hl 1 rfl) ?_
    refine lv_iload_n hx hb d_Pr_takeKey_38 rfl (lv_at hl 0 rfl) ?_
    refine lv_bipush (v := nI 8) hx hb d_Pr_takeKey_39 (by decide) ?_
    refine lv_imul hx hb d_Pr_takeKey_41 ?_
    refine zti (y := nI ((ro 0) * 8)) (pk_mul _ _) ?_
    refine lv_bipush (v := nI 64) hx hb d_Pr_takeKey_42 (by decide) ?_
    refine lv_irem hx hb d_Pr_takeKey_44 (nI_ne0 (by omega) (by omega)) ?_
    refine zti (y := nI (((ro 0) * 8) % 64)) (pk_rem (by omega) (by omega) (by omega)) ?_
    refine va_put (D := D) (ci := 1) (v := .int (nI (((ro 0) * 8) % 64))) (ty := .int) (C := RPr) (T := TPr) (N := 9) hx hb ht inPr tyPr tyPr_ok nmPr hown hK hP hD hS 0 rfl rfl 6 (by decide) (ht _ q126) (fun _ h9 => h9) rfl (by decide +kernel) rfl rfl (Nat.le_of_ble_eq_true rfl) d_Pr_takeKey_45 (fun H locs hP hD hS => ?_)
    have hP : va_P D vCl (wP ad ca me nu (shC ro kc) un li pt st cy (((ro 0) * 8) % 64) bk en (kc - 1)) H := hP
    have hD : va_D A (wP ad ca me nu (shC ro kc) un li pt st cy (((ro 0) * 8) % 64) bk en (kc - 1)) := hD
    exact zret_v C0 hr hAe hP hD hS (Or.inr ⟨hk1, rfl⟩) d_Pr_takeKey_48
end
section
set_option maxHeartbeats 4000000 in
set_option maxRecDepth 100000 in
theorem m_Pr_putResult (l : Launch) (D : va_G) (ca : Nat → ClassId) (k : Nat → Nat) (sz : Nat) (ad : Nat → Nat) (me nu ro : Nat → Nat) (un li pt : Nat) (st : Int32) (cy pl bk en kc : Nat) (r : Nat) (z : Int) (hr7 : r < 7) (hz1 : -(10 ^ 15) ≤ z) (hz2 : z ≤ 10 ^ 15) (hn : ∀ j, nu j < 10 ^ 14) (hu : 0 < un) (hu2 : un ≤ 10 ^ 14) (hl0 : 0 < li) (hl2 : li ≤ 10 ^ 14) : Met l y_Pr_putResult (zw y_Pr_putResult c_Pr_putResult 4 none) { frames := 2, cells := 0, slots := 0, locals := 44 } (va_Pc [.ref (ad 6), .int (nI r), .long (Int64.ofInt z)] (zPre D (zty ca) k (wP ad ca me nu ro un li pt st cy pl bk en kc) sz)) (va_Qv (fun w => w = wP ad ca me (wr un li nu r (rz li z)) ro un li pt st (rc li z) pl bk en kc) (zB D (zty ca) (wP ad ca me nu ro un li pt st cy pl bk en kc) sz) (va_A (wP ad ca me nu ro un li pt st cy pl bk en kc) sz)) 0 0 (va_A (wP ad ca me nu ro un li pt st cy pl bk en kc) sz) := by
  refine zOf (own := "DigitChip$Processor") (by decide +kernel) rfl (Nat.le_of_ble_eq_true rfl) ?_
  intro p e s m below meth c A ls C0 hr hnm hAe hsz hl hP hD hS
  have hl : lv_has ls 4 [(0, .ref (ad 6)), (1, .int (nI r)), (2, .long (Int64.ofInt z))] := hl
  obtain ⟨hx, hb, hml, hown, ht, hK, hX, hA, hlk⟩ := id C0
  refine lv_aload_n hx hb d_Pr_putResult_0 rfl (lv_at hl 0 rfl) ?_
  refine lv_lload_n hx hb d_Pr_putResult_1 rfl (lv_at hl 2 rfl) ?_
  refine lv_lconst (v := lN 0) hx hb d_Pr_putResult_2 rfl ?_
  refine W.lcmp hx hb d_Pr_putResult_3 ?_
  refine lv_if_lt (tgt := 19) hx hb d_Pr_putResult_4 (by decide) (fun h1 => ?_) (fun h1 => ?_)
  · skip
    have h1 : (z < ((0 : Nat) : Int)) := (zc_lt (by omega) (by omega)).mp ((lg_cmp_lt _ _).mp h1)
    refine lv_iconst (v := nI 1) hx hb d_Pr_putResult_19 (by decide) ?_
    refine lv_goto (tgt := 24) hx hb d_Pr_putResult_20 (by decide) ?_
    refine va_put (D := D) (ci := 1) (v := .int (nI 1)) (ty := .boolean) (C := RPr) (T := TPr) (N := 9) hx hb ht inPr tyPr tyPr_ok nmPr hown hK hP hD hS 0 rfl rfl 5 (by decide) (ht _ q124) (fun _ h9 => h9) rfl (by decide +kernel) (zbn (by omega)) (zbf (by omega)) (Nat.le_of_ble_eq_true rfl) d_Pr_putResult_24 (fun H locs hP hD hS => ?_)
    have hP : va_P D vCl (wP ad ca me nu ro un li pt st 1 pl bk en kc) H := hP
    have hD : va_D A (wP ad ca me nu ro un li pt st 1 pl bk en kc) := hD
    refine lv_aload_n hx hb d_Pr_putResult_27 rfl (lv_at hl 0 rfl) ?_
    refine va_get (D := D) (ci := 1) (v := .ref (ad 8)) (C := RPr) (T := TPr) (N := 9) hx hb ht inPr hown hK hP 0 rfl rfl 1 (by decide) (ht _ q116) (fun _ h9 => h9) rfl d_Pr_putResult_28 ?_
    refine lv_iload_n hx hb d_Pr_putResult_31 rfl (lv_at hl 1 rfl) ?_
    refine lv_lload_n hx hb d_Pr_putResult_32 rfl (lv_at hl 2 rfl) ?_
    refine lv_aload_n hx hb d_Pr_putResult_33 rfl (lv_at hl 0 rfl) ?_
    refine va_get (D := D) (ci := 1) (v := .ref (ad 8)) (C := RPr) (T := TPr) (N := 9) hx hb ht inPr hown hK hP 0 rfl rfl 1 (by decide) (ht _ q116) (fun _ h9 => h9) rfl d_Pr_putResult_34 ?_
    refine va_get (D := D) (ci := 2) (v := .long (lN li)) (C := RRe) (T := TRe) (N := 3) hx hb ht inRe hown hK hP 2 rfl rfl 2 (by decide) (ht _ q91) (fun _ h9 => h9) rfl d_Pr_putResult_37 ?_
    refine zgo_l (wr := wP ad ca me nu ro un li pt st 1 pl bk en kc) C0 (zrunS (na := 2) (As := [.long (Int64.ofInt z), .long (lN li)]) (rest := [.int (nI r), .ref (ad 8)]) C0 hP hD hS [] rfl rfl (m_Ma_floorMod l D ca k H.size ad z li (by omega) (by omega) (by omega)) (zg_S q535 q536 q12 q537) (by decide +kernel) rfl rfl ⟨by decide, by decide⟩ rfl hl.1 rfl (Nat.le_of_ble_eq_true rfl) d_Pr_putResult_40 ⟨Nat.zero_le _, Nat.zero_le _⟩) hP hD hS [] [0, 1, 2, 3, 4, 5] rfl rfl (by decide) (by decide) (fun r2 w1 H locs hw hP hD hS => ?_)
    obtain ⟨rfl, rfl⟩ := hw
    have hP : va_P D vCl (wP ad ca me nu ro un li pt st 1 pl bk en kc) H := hP
    have hD : va_D A (wP ad ca me nu ro un li pt st 1 pl bk en kc) := hD
    refine zgo_v (wr := []) C0 (zrunV (na := 2) (As := [.int (nI r), .long (lN (rz li z))]) (rest := []) C0 hP hD hS [0, 1, 2, 3, 4, 5] rfl rfl (m_Re_putPart l D ca k H.size ad me nu ro un li pt st 1 pl bk en kc r (rz li z) (by omega) hn hu hu2 hl0 hl2) (zg_V q490 q491 q492 q5 q493) (by decide +kernel) rfl rfl ⟨by decide, by decide⟩ 2 rfl rfl rfl hl.1 rfl (Nat.le_of_ble_eq_true rfl) d_Pr_putResult_43 ⟨Nat.zero_le _, Nat.zero_le _⟩) hP hD hS [0, 1, 2, 3, 4, 5] [] rfl rfl (by decide) (by decide) (fun w1 H locs hw hP hD hS => ?_)
    obtain rfl := hw
    have hP : va_P D vCl (wP ad ca me (wr un li nu r (rz li z)) ro un li pt st 1 pl bk en kc) H := hP
    have hD : va_D A (wP ad ca me (wr un li nu r (rz li z)) ro un li pt st 1 pl bk en kc) := hD
    exact zret_v C0 hr hAe hP hD hS (by rw [show rc li z = 1 from if_pos (by omega)]) d_Pr_putResult_46
  · skip
    have h1 : ¬ (z < ((0 : Nat) : Int)) := fun z => h1 ((lg_cmp_lt _ _).mpr ((zc_lt (by omega) (by omega)).mpr z))
    refine lv_lload_n hx hb d_Pr_putResult_7 rfl (lv_at hl 2 rfl) ?_
    refine lv_aload_n hx hb d_Pr_putResult_8 rfl (lv_at hl 0 rfl) ?_
    refine va_get (D := D) (ci := 1) (v := .ref (ad 8)) (C := RPr) (T := TPr) (N := 9) hx hb ht inPr hown hK hP 0 rfl rfl 1 (by decide) (ht _ q116) (fun _ h9 => h9) rfl d_Pr_putResult_9 ?_
    refine va_get (D := D) (ci := 2) (v := .long (lN li)) (C := RRe) (T := TRe) (N := 3) hx hb ht inRe hown hK hP 2 rfl rfl 2 (by decide) (ht _ q91) (fun _ h9 => h9) rfl d_Pr_putResult_12 ?_
    refine W.lcmp hx hb d_Pr_putResult_15 ?_
    refine lv_if_lt (tgt := 23) hx hb d_Pr_putResult_16 (by decide) (fun h4 => ?_) (fun h4 => ?_)
    · skip
      have h4 : (z < ((li : Nat) : Int)) := (zc_lt (by omega) (by omega)).mp ((lg_cmp_lt _ _).mp h4)
      refine lv_iconst (v := nI 0) hx hb d_Pr_putResult_23 (by decide) ?_
      refine va_put (D := D) (ci := 1) (v := .int (nI 0)) (ty := .boolean) (C := RPr) (T := TPr) (N := 9) hx hb ht inPr tyPr tyPr_ok nmPr hown hK hP hD hS 0 rfl rfl 5 (by decide) (ht _ q124) (fun _ h9 => h9) rfl (by decide +kernel) (zbn (by omega)) (zbf (by omega)) (Nat.le_of_ble_eq_true rfl) d_Pr_putResult_24 (fun H locs hP hD hS => ?_)
      have hP : va_P D vCl (wP ad ca me nu ro un li pt st 0 pl bk en kc) H := hP
      have hD : va_D A (wP ad ca me nu ro un li pt st 0 pl bk en kc) := hD
      refine lv_aload_n hx hb d_Pr_putResult_27 rfl (lv_at hl 0 rfl) ?_
      refine va_get (D := D) (ci := 1) (v := .ref (ad 8)) (C := RPr) (T := TPr) (N := 9) hx hb ht inPr hown hK hP 0 rfl rfl 1 (by decide) (ht _ q116) (fun _ h9 => h9) rfl d_Pr_putResult_28 ?_
      refine lv_iload_n hx hb d_Pr_putResult_31 rfl (lv_at hl 1 rfl) ?_
      refine lv_lload_n hx hb d_Pr_putResult_32 rfl (lv_at hl 2 rfl) ?_
      refine lv_aload_n hx hb d_Pr_putResult_33 rfl (lv_at hl 0 rfl) ?_
      refine va_get (D := D) (ci := 1) (v := .ref (ad 8)) (C := RPr) (T := TPr) (N := 9) hx hb ht inPr hown hK hP 0 rfl rfl 1 (by decide) (ht _ q116) (fun _ h9 => h9) rfl d_Pr_putResult_34 ?_
      refine va_get (D := D) (ci := 2) (v := .long (lN li)) (C := RRe) (T := TRe) (N := 3) hx hb ht inRe hown hK hP 2 rfl rfl 2 (by decide) (ht _ q91) (fun _ h9 => h9) rfl d_Pr_putResult_37 ?_
      refine zgo_l (wr := wP ad ca me nu ro un li pt st 0 pl bk en kc) C0 (zrunS (na := 2) (As := [.long (Int64.ofInt z), .long (lN li)]) (rest := [.int (nI r), .ref (ad 8)]) C0 hP hD hS [] rfl rfl (m_Ma_floorMod l D ca k H.size ad z li (by omega) (by omega) (by omega)) (zg_S q535 q536 q12 q537) (by decide +kernel) rfl rfl ⟨by decide, by decide⟩ rfl hl.1 rfl (Nat.le_of_ble_eq_true rfl) d_Pr_putResult_40 ⟨Nat.zero_le _, Nat.zero_le _⟩) hP hD hS [] [0, 1, 2, 3, 4, 5] rfl rfl (by decide) (by decide) (fun r5 w1 H locs hw hP hD hS => ?_)
      obtain ⟨rfl, rfl⟩ := hw
      have hP : va_P D vCl (wP ad ca me nu ro un li pt st 0 pl bk en kc) H := hP
      have hD : va_D A (wP ad ca me nu ro un li pt st 0 pl bk en kc) := hD
      refine zgo_v (wr := []) C0 (zrunV (na := 2) (As := [.int (nI r), .long (lN (rz li z))]) (rest := []) C0 hP hD hS [0, 1, 2, 3, 4, 5] rfl rfl (m_Re_putPart l D ca k H.size ad me nu ro un li pt st 0 pl bk en kc r (rz li z) (by omega) hn hu hu2 hl0 hl2) (zg_V q490 q491 q492 q5 q493) (by decide +kernel) rfl rfl ⟨by decide, by decide⟩ 2 rfl rfl rfl hl.1 rfl (Nat.le_of_ble_eq_true rfl) d_Pr_putResult_43 ⟨Nat.zero_le _, Nat.zero_le _⟩) hP hD hS [0, 1, 2, 3, 4, 5] [] rfl rfl (by decide) (by decide) (fun w1 H locs hw hP hD hS => ?_)
      obtain rfl := hw
      have hP : va_P D vCl (wP ad ca me (wr un li nu r (rz li z)) ro un li pt st 0 pl bk en kc) H := hP
      have hD : va_D A (wP ad ca me (wr un li nu r (rz li z)) ro un li pt st 0 pl bk en kc) := hD
      exact zret_v C0 hr hAe hP hD hS (by rw [show rc li z = 0 from if_neg (by omega)]) d_Pr_putResult_46
    · skip
      have h4 : ¬ (z < ((li : Nat) : Int)) := fun z => h4 ((lg_cmp_lt _ _).mpr ((zc_lt (by omega) (by omega)).mpr z))
      refine lv_iconst (v := nI 1) hx hb d_Pr_putResult_19 (by decide) ?_
      refine lv_goto (tgt := 24) hx hb d_Pr_putResult_20 (by decide) ?_
      refine va_put (D := D) (ci := 1) (v := .int (nI 1)) (ty := .boolean) (C := RPr) (T := TPr) (N := 9) hx hb ht inPr tyPr tyPr_ok nmPr hown hK hP hD hS 0 rfl rfl 5 (by decide) (ht _ q124) (fun _ h9 => h9) rfl (by decide +kernel) (zbn (by omega)) (zbf (by omega)) (Nat.le_of_ble_eq_true rfl) d_Pr_putResult_24 (fun H locs hP hD hS => ?_)
      have hP : va_P D vCl (wP ad ca me nu ro un li pt st 1 pl bk en kc) H := hP
      have hD : va_D A (wP ad ca me nu ro un li pt st 1 pl bk en kc) := hD
      refine lv_aload_n hx hb d_Pr_putResult_27 rfl (lv_at hl 0 rfl) ?_
      refine va_get (D := D) (ci := 1) (v := .ref (ad 8)) (C := RPr) (T := TPr) (N := 9) hx hb ht inPr hown hK hP 0 rfl rfl 1 (by decide) (ht _ q116) (fun _ h9 => h9) rfl d_Pr_putResult_28 ?_
      refine lv_iload_n hx hb d_Pr_putResult_31 rfl (lv_at hl 1 rfl) ?_
      refine lv_lload_n hx hb d_Pr_putResult_32 rfl (lv_at hl 2 rfl) ?_
      refine lv_aload_n hx hb d_Pr_putResult_33 rfl (lv_at hl 0 rfl) ?_
      refine va_get (D := D) (ci := 1) (v := .ref (ad 8)) (C := RPr) (T := TPr) (N := 9) hx hb ht inPr hown hK hP 0 rfl rfl 1 (by decide) (ht _ q116) (fun _ h9 => h9) rfl d_Pr_putResult_34 ?_
      refine va_get (D := D) (ci := 2) (v := .long (lN li)) (C := RRe) (T := TRe) (N := 3) hx hb ht inRe hown hK hP 2 rfl rfl 2 (by decide) (ht _ q91) (fun _ h9 => h9) rfl d_Pr_putResult_37 ?_
      refine zgo_l (wr := wP ad ca me nu ro un li pt st 1 pl bk en kc) C0 (zrunS (na := 2) (As := [.long (Int64.ofInt z), .long (lN li)]) (rest := [.int (nI r), .ref (ad 8)]) C0 hP hD hS [] rfl rfl (m_Ma_floorMod l D ca k H.size ad z li (by omega) (by omega) (by omega)) (zg_S q535 q536 q12 q537) (by decide +kernel) rfl rfl ⟨by decide, by decide⟩ rfl hl.1 rfl (Nat.le_of_ble_eq_true rfl) d_Pr_putResult_40 ⟨Nat.zero_le _, Nat.zero_le _⟩) hP hD hS [] [0, 1, 2, 3, 4, 5] rfl rfl (by decide) (by decide) (fun r7 w1 H locs hw hP hD hS => ?_)
      obtain ⟨rfl, rfl⟩ := hw
      have hP : va_P D vCl (wP ad ca me nu ro un li pt st 1 pl bk en kc) H := hP
      have hD : va_D A (wP ad ca me nu ro un li pt st 1 pl bk en kc) := hD
      refine zgo_v (wr := []) C0 (zrunV (na := 2) (As := [.int (nI r), .long (lN (rz li z))]) (rest := []) C0 hP hD hS [0, 1, 2, 3, 4, 5] rfl rfl (m_Re_putPart l D ca k H.size ad me nu ro un li pt st 1 pl bk en kc r (rz li z) (by omega) hn hu hu2 hl0 hl2) (zg_V q490 q491 q492 q5 q493) (by decide +kernel) rfl rfl ⟨by decide, by decide⟩ 2 rfl rfl rfl hl.1 rfl (Nat.le_of_ble_eq_true rfl) d_Pr_putResult_43 ⟨Nat.zero_le _, Nat.zero_le _⟩) hP hD hS [0, 1, 2, 3, 4, 5] [] rfl rfl (by decide) (by decide) (fun w1 H locs hw hP hD hS => ?_)
      obtain rfl := hw
      have hP : va_P D vCl (wP ad ca me (wr un li nu r (rz li z)) ro un li pt st 1 pl bk en kc) H := hP
      have hD : va_D A (wP ad ca me (wr un li nu r (rz li z)) ro un li pt st 1 pl bk en kc) := hD
      exact zret_v C0 hr hAe hP hD hS (by rw [show rc li z = 1 from if_pos (by omega)]) d_Pr_putResult_46
end
