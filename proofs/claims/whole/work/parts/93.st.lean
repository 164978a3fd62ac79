-- what the start gives
def gvL : List Cond := flatC (Jvm.Cond.and given_1 narrow_1)
def tmS (i : Nat) : Term := Term.string "DigitChip$Assembler" (zE.getD i 0)
theorem gv_len : ∀ i, i < 7 → ((List.range 7).map fun i => (zS i).length).getD i 0 < 2 ^ 31 := by decide +kernel
theorem gv_ex : ∀ i, i < 7 → Cond.exactly (tmS i) "java/lang/String" ∈ gvL := by decide +kernel
theorem gv_co : ∀ i, i < 7 → Cond.eq (.field (tmS i) "java/lang/String" "coder" "B") (.int 0) ∈ gvL := by decide +kernel
theorem gv_ar : ∀ i, i < 7 → Cond.arrayOf (.field (tmS i) "java/lang/String" "value" "[B") .byte ∈ gvL := by decide +kernel
theorem gv_le : ∀ i, i < 7 → Cond.eq (.length (.field (tmS i) "java/lang/String" "value" "[B")) (.int (Int32.ofNat (((List.range 7).map fun i => (zS i).length).getD i 0))) ∈ gvL := by decide +kernel
theorem gv_ne : ∀ i, i < 7 → ∀ j, j < 7 → i ≠ j → Cond.not (Cond.eq (tmS i) (tmS j)) ∈ gvL ∨ Cond.not (Cond.eq (tmS j) (tmS i)) ∈ gvL := by decide +kernel
theorem gv_t : ∀ j, j < 15 → Cond.eq (.elem (.static "DigitChip$Registers" "TENS" "[J") (.int (Int32.ofNat j))) (.long (lN (10 ^ j))) ∈ gvL := by decide +kernel
theorem gv_t1 : Cond.arrayOf (.static "DigitChip$Registers" "TENS" "[J") .long ∈ gvL := by decide +kernel
theorem gv_t2 : Cond.eq (.length (.static "DigitChip$Registers" "TENS" "[J")) (.int (Int32.ofNat 15)) ∈ gvL := by decide +kernel
theorem gv_cs : Cond.eq (.static "java/lang/String" "COMPACT_STRINGS" "Z") (.int 1) ∈ gvL := by decide +kernel
theorem gv_f : Cond.isRef (.static "jdk/internal/util/Preconditions" "SIOOBE_FORMATTER" "Ljava/util/function/BiFunction;") ∈ gvL := by decide +kernel
theorem gv_u : Cond.isRef (.static Bundle.tN "UNASSIGNED_STACK" Bundle.steD) ∈ gvL := by decide +kernel
theorem gv_s : Cond.isRef (.static Bundle.tN "SUPPRESSED_SENTINEL" Bundle.listD) ∈ gvL := by decide +kernel
