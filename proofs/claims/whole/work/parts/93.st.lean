-- what the start gives
def gvL : List Cond := flatC (Jvm.Cond.and given_1 narrow_1)
def tmS (i : Nat) : Term := Term.string "DigitChip$Assembler" (zE.getD i 0)
theorem gv_len : ∀ i, i < 7 → ((List.range 7).map fun i => (zS i).length).getD i 0 < 2 ^ 31 := by decide +kernel
theorem gv_ex : ∀ i, i < 7 → Cond.exactly (tmS i) "java/lang/String" ∈ gvL := by decide +kernel
theorem gv_co : ∀ i, i < 7 → Cond.eq (.field (tmS i) "java/lang/String" "coder" "B") (.int 0) ∈ gvL := by decide +kernel
theorem gv_ar : ∀ i, i < 7 → Cond.arrayOf (.field (tmS i) "java/lang/String" "value" "[B") .byte ∈ gvL := by decide +kernel
theorem gv_le : ∀ i, i < 7 → Cond.eq (.length (.field (tmS i) "java/lang/String" "value" "[B")) (.int (Int32.ofNat (((List.range 7).map fun i => (zS i).length).getD i 0))) ∈ gvL := by decide +kernel
theorem gv_ne : ∀ i, i < 7 → ∀ j, j < 7 → i ≠ j → Cond.not (Cond.eq (tmS i) (tmS j)) ∈ gvL ∨ Cond.not (Cond.eq (tmS j) (tmS i)) ∈ gvL := by decide +kernel
theorem gv_t : ∀ j, j < 15 → Cond.eq (.elem (.static "DigitChip$Registers" "TENS" "[J") (.int (Int32.ofNat j))) (.long (lN (10 ^ j))) ∈ gvL := by decide +kernel
theorem gv_t1 : Cond.arrayOf (.static "DigitChip$Registers" "TENS" "[J") .long ∈ gvL := by decide +kernel
theorem gv_t2 : Cond.eq (.length (.static "DigitChip$Registers" "TENS" "[J")) (.int (Int32.ofNat 15)) ∈ gvL := by decide +kernel
theorem gv_cs : Cond.eq (.static "java/lang/String" "COMPACT_STRINGS" "Z") (.int 1) ∈ gvL := by decide +kernel
theorem gv_f : Cond.isRef (.static "jdk/internal/util/Preconditions" "SIOOBE_FORMATTER" "Ljava/util/function/BiFunction;") ∈ gvL := by decide +kernel
theorem gv_u : Cond.isRef (.static Bundle.tN "UNASSIGNED_STACK" Bundle.steD) ∈ gvL := by decide +kernel
theorem gv_s : Cond.isRef (.static Bundle.tN "SUPPRESSED_SENTINEL" Bundle.listD) ∈ gvL := by decide +kernel
def gvN (i : Nat) : Nat := ((List.range 7).map fun i => (zS i).length).getD i 0
def gvC (i j : Nat) : Cond := Cond.eq (.elem (.field (tmS i) "java/lang/String" "value" "[B") (.int (Int32.ofNat j))) (.int ((((List.range 7).map fun i => (zS i).map nI).getD i []).getD j 0))
def gvB (i : Nat) : Nat := [69, 409, 113, 185, 76, 98, 39].getD i 0
def gvK (i : Nat) : List Int32 := ((List.range 7).map fun i => (zS i).map nI).getD i []
def gvM (i : Nat) : List Int32 → Nat → List Cond
  | [], _ => []
  | x :: t, j => Cond.eq (.elem (.field (tmS i) "java/lang/String" "value" "[B") (.int (Int32.ofNat j))) (.int x) :: gvM i t (j + 1)
theorem gv_d0 : (gvL.drop 69).take 2 = gvM 0 (gvK 0) 0 := by decide +kernel
theorem gv_d1 : (gvL.drop 409).take 5 = gvM 1 (gvK 1) 0 := by decide +kernel
theorem gv_d2 : (gvL.drop 113).take 64 = gvM 2 (gvK 2) 0 := by decide +kernel
theorem gv_d3 : (gvL.drop 185).take 215 = gvM 3 (gvK 3) 0 := by decide +kernel
theorem gv_d4 : (gvL.drop 76).take 16 = gvM 4 (gvK 4) 0 := by decide +kernel
theorem gv_d5 : (gvL.drop 98).take 8 = gvM 5 (gvK 5) 0 := by decide +kernel
theorem gv_d6 : (gvL.drop 39).take 26 = gvM 6 (gvK 6) 0 := by decide +kernel
theorem gvM_in {i : Nat} : ∀ {l : List Int32} {j k : Nat}, k < l.length → Cond.eq (.elem (.field (tmS i) "java/lang/String" "value" "[B") (.int (Int32.ofNat (j + k)))) (.int (l.getD k 0)) ∈ gvM i l j
  | [], _, _, h => by simp at h
  | x :: t, j, 0, _ => List.mem_cons_self
  | x :: t, j, k + 1, h => by
    have := gvM_in (i := i) (l := t) (j := j + 1) (k := k) (by simpa using h)
    rw [show j + 1 + k = j + (k + 1) by omega] at this
    exact List.mem_cons_of_mem _ this
theorem gvK_n : ∀ i, i < 7 → (gvK i).length = gvN i := by decide +kernel
theorem gv_el : ∀ i, i < 7 → ∀ j, j < gvN i → gvC i j ∈ gvL := by
  intro i hi j hj
  have hl := gvK_n i hi
  have key : ∀ {n m : Nat}, (gvL.drop n).take m = gvM i (gvK i) 0 → gvC i j ∈ gvL := fun {n m} h => by
    have h1 := gvM_in (i := i) (l := gvK i) (j := 0) (k := j) (by omega)
    rw [← h, Nat.zero_add] at h1
    exact List.mem_of_mem_drop (List.mem_of_mem_take h1)
  rcases (show i = 0 ∨ i = 1 ∨ i = 2 ∨ i = 3 ∨ i = 4 ∨ i = 5 ∨ i = 6 by omega) with rfl | rfl | rfl | rfl | rfl | rfl | rfl
  · exact key gv_d0
  · exact key gv_d1
  · exact key gv_d2
  · exact key gv_d3
  · exact key gv_d4
  · exact key gv_d5
  · exact key gv_d6
