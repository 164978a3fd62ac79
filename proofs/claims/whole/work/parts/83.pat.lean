-- names: the class's lists of patterns, pattern by pattern
def pmP : List Nat → (Nat → Nat) → Nat → Nat → Option Nat
  | [], _, _, ch => some ch
  | x :: P, tx, j, ch => if x = 78 then (match ixO (zS 4) (tx j) 0 with
      | some c => pmP P tx (j + 1) c
      | none => none)
    else if x = 70 then (match ixO (zS 5) (tx j) 0 with
      | some c => pmP P tx (j + 1) c
      | none => none)
    else if x = 76 then (match ixO (zS 6) (tx j) 0 with
      | some c => pmP P tx (j + 1) c
      | none => none)
    else if x = tx j then pmP P tx (j + 1) ch else none
def mt (P : List Nat) (tx : Nat → Nat) (a0 n : Nat) : Option Nat := if n = P.length then pmP P tx a0 0 else none
def fP (tx : Nat → Nat) (a0 n : Nat) : List (List Nat) → Nat → Option (Nat × Nat)
  | [], _ => none
  | P :: Ps, q => match mt P tx a0 n with
    | some c => some (q, c)
    | none => fP tx a0 n Ps (q + 1)
def unw : List (List Nat) → List Nat
  | [] => []
  | [P] => P
  | P :: Q :: Ps => P ++ 32 :: unw (Q :: Ps)
theorem dr_h {L : List Nat} {s x : Nat} {t : List Nat} (h : L.drop s = x :: t) : L.getD s 0 = x ∧ L.drop (s + 1) = t := by
  constructor
  · have := congrArg (fun l => l[0]?) h
    simp only [List.getElem?_drop, Nat.add_zero, List.getElem?_cons_zero] at this
    rw [List.getD_eq_getElem?_getD, this]
    rfl
  · rw [← List.drop_drop, h]
    rfl
theorem pm_P {L : List Nat} {sp a0 r : Nat} {tx : Nat → Nat} {Z : List Nat} : ∀ {P : List Nat} {j ch : Nat}, a0 ≤ j → L.drop (sp + j - a0) = P ++ Z → pmR L sp a0 tx (P.length + r) j ch = (match pmP P tx j ch with
    | some c => pmR L sp a0 tx r (j + P.length) c
    | none => none)
  | [], j, ch, hj, h => by
    show pmR L sp a0 tx (0 + r) j ch = pmR L sp a0 tx r (j + 0) ch
    rw [Nat.zero_add, Nat.add_zero]
  | x :: P, j, ch, hj, h => by
    obtain ⟨h1, h2⟩ := dr_h h
    have h2 : L.drop (sp + (j + 1) - a0) = P ++ Z := by rw [show sp + (j + 1) - a0 = sp + j - a0 + 1 by omega]; exact h2
    have ih : ∀ ch, pmR L sp a0 tx (P.length + r) (j + 1) ch = (match pmP P tx (j + 1) ch with
      | some c => pmR L sp a0 tx r (j + (P.length + 1)) c
      | none => none) := fun ch => by
      rw [pm_P (by omega) h2, show j + 1 + P.length = j + (P.length + 1) by omega]
    rw [show (x :: P).length + r = (P.length + r) + 1 by simp only [List.length_cons]; omega, pm_w, h1]
    unfold pmP
    simp only [List.length_cons]
    split
    · cases ixO (zS 4) (tx j) 0 with
      | none => rfl
      | some c => exact ih c
    · split
      · cases ixO (zS 5) (tx j) 0 with
        | none => rfl
        | some c => exact ih c
      · split
        · cases ixO (zS 6) (tx j) 0 with
          | none => rfl
          | some c => exact ih c
        · split
          · exact ih ch
          · rfl
theorem dr_len {L P Z : List Nat} {s : Nat} (h : L.drop s = P ++ Z) (hP : P ≠ []) : L.length = s + P.length + Z.length := by
  have := congrArg List.length h
  rw [List.length_drop, List.length_append] at this
  have : 0 < P.length := List.length_pos_iff.mpr hP
  omega
theorem dr_at {L P Z : List Nat} {s i : Nat} (h : L.drop s = P ++ Z) : L.getD (s + i) 0 = (P ++ Z).getD i 0 := by
  rw [← h, List.getD_eq_getElem?_getD, List.getD_eq_getElem?_getD, List.getElem?_drop]
theorem isN_P {L P Z : List Nat} {sp a0 e0 : Nat} {tx : Nat → Nat} (hae : a0 < e0) (hnb : ∀ j, a0 ≤ j → j < e0 → ¬ tx j = 32) (hP : P ≠ []) (hb : ∀ x ∈ P, ¬ x = 32) (hZ : Z = [] ∨ ∃ Z', Z = 32 :: Z') (h : L.drop sp = P ++ Z) : isN L sp tx a0 e0 = mt P tx a0 (e0 - a0) := by
  have hl := dr_len h hP
  have ha : L.drop (sp + a0 - a0) = P ++ Z := by rw [Nat.add_sub_cancel]; exact h
  obtain ⟨n, hn⟩ : ∃ n, e0 - a0 = n := ⟨_, rfl⟩
  unfold isN mt
  rw [show sp + e0 - a0 = sp + n by omega, hn, dr_at h]
  rcases Nat.lt_trichotomy n P.length with hlt | heq | hgt
  · rw [if_pos, if_neg (by omega)]
    refine Or.inr ⟨by omega, ?_⟩
    rw [List.getD_eq_getElem?_getD, List.getElem?_append_left hlt, List.getElem?_eq_getElem hlt]
    exact hb _ (List.getElem_mem hlt)
  · rw [if_neg, if_pos heq]
    · have := pm_P (r := 0) (tx := tx) (ch := 0) (Nat.le_refl a0) ha
      rw [heq, show P.length = P.length + 0 from rfl, this]
      cases pmP P tx a0 0 <;> rfl
    · intro hc
      rcases hc with hc | ⟨hc, hc2⟩
      · omega
      · rcases hZ with rfl | ⟨Z', rfl⟩
        · simp only [List.length_nil] at hl
          omega
        · apply hc2
          rw [heq, List.getD_eq_getElem?_getD, List.getElem?_append_right (Nat.le_refl _), Nat.sub_self]
          rfl
  · have hne : ¬ n = P.length := by omega
    rw [if_neg hne]
    rcases hZ with rfl | ⟨Z', rfl⟩
    · rw [if_pos]
      simp only [List.length_nil] at hl
      omega
    · split
      · rfl
      · obtain ⟨r, rfl⟩ : ∃ r, n = P.length + (r + 1) := ⟨n - P.length - 1, by omega⟩
        rw [pm_P (Nat.le_refl a0) ha]
        cases pmP P tx a0 0 with
        | none => rfl
        | some c =>
          show pmR L sp a0 tx (r + 1) (a0 + P.length) c = none
          have e : L.getD (sp + (a0 + P.length) - a0) 0 = 32 := by
            rw [show sp + (a0 + P.length) - a0 = sp + P.length by omega, dr_at h, List.getD_eq_getElem?_getD, List.getElem?_append_right (Nat.le_refl _), Nat.sub_self]
            rfl
          rw [pm_w, e, if_neg (by decide), if_neg (by decide), if_neg (by decide), if_neg]
          exact fun z => hnb (a0 + P.length) (by omega) (by omega) z.symm
theorem fR_in {L Z : List Nat} {tx : Nat → Nat} {a0 e0 r q : Nat} : ∀ {P : List Nat} {sp : Nat}, (∀ x ∈ P, ¬ x = 32) → L.drop sp = P ++ Z → 0 < sp → ¬ L.getD (sp - 1) 0 = 32 → fR L tx a0 e0 (P.length + r) sp q = fR L tx a0 e0 r (sp + P.length) q
  | [], sp, _, _, _, _ => by
    show fR L tx a0 e0 (0 + r) sp q = fR L tx a0 e0 r (sp + 0) q
    rw [Nat.zero_add, Nat.add_zero]
  | x :: P, sp, hb, h, h0, h1 => by
    obtain ⟨h2, h3⟩ := dr_h h
    have hx := hb x List.mem_cons_self
    rw [show (x :: P).length + r = (P.length + r) + 1 by simp only [List.length_cons]; omega, f_w, h2, if_neg hx, if_neg (fun hz => hz.elim (fun z => by omega) h1)]
    rw [fR_in (fun y hy => hb y (List.mem_cons_of_mem _ hy)) h3 (by omega) (by rw [Nat.add_sub_cancel, h2]; exact hx)]
    congr 1
    simp only [List.length_cons]
    omega
theorem fR_P {L : List Nat} {tx : Nat → Nat} {a0 e0 : Nat} (hae : a0 < e0) (hnb : ∀ j, a0 ≤ j → j < e0 → ¬ tx j = 32) : ∀ {Ps : List (List Nat)} {sp q : Nat}, (∀ P ∈ Ps, P ≠ [] ∧ ∀ x ∈ P, ¬ x = 32) → Ps ≠ [] → L.drop sp = unw Ps → (sp = 0 ∨ L.getD (sp - 1) 0 = 32) → fR L tx a0 e0 (unw Ps).length sp q = fP tx a0 (e0 - a0) Ps q
  | [], sp, q, _, h, _, _ => absurd rfl h
  | [P], sp, q, hb, _, h, hs => by
    obtain ⟨hP, hx⟩ := hb P List.mem_cons_self
    have h' : L.drop sp = P ++ [] := by rw [List.append_nil]; exact h
    have hi := isN_P (tx := tx) hae hnb hP hx (Or.inl rfl) h'
    obtain ⟨x, P', rfl⟩ := List.exists_cons_of_ne_nil hP
    obtain ⟨h2, h3⟩ := dr_h h'
    have hx0 := hx x List.mem_cons_self
    show fR L tx a0 e0 (P'.length + 1) sp q = _
    rw [f_w, h2, if_neg hx0, if_pos hs, hi]
    unfold fP
    cases mt (x :: P') tx a0 (e0 - a0) with
    | some c => rfl
    | none =>
      show fR L tx a0 e0 (P'.length + 0) (sp + 1) q = none
      rw [fR_in (fun y hy => hx y (List.mem_cons_of_mem _ hy)) h3 (by omega) (by rw [Nat.add_sub_cancel, h2]; exact hx0)]
      rfl
  | P :: Q :: Ps, sp, q, hb, _, h, hs => by
    obtain ⟨hP, hx⟩ := hb P List.mem_cons_self
    have h' : L.drop sp = P ++ 32 :: unw (Q :: Ps) := h
    have hi := isN_P (tx := tx) hae hnb hP hx (Or.inr ⟨_, rfl⟩) h'
    have hd2 : L.drop (sp + P.length) = 32 :: unw (Q :: Ps) := by
      rw [← List.drop_drop, h', List.drop_left]
    obtain ⟨x, P', rfl⟩ := List.exists_cons_of_ne_nil hP
    obtain ⟨h2, h3⟩ := dr_h h'
    have hx0 := hx x List.mem_cons_self
    obtain ⟨h4, h5⟩ := dr_h hd2
    have hl : (unw ((x :: P') :: Q :: Ps)).length = (P'.length + ((unw (Q :: Ps)).length + 1)) + 1 := by
      show ((x :: P') ++ 32 :: unw (Q :: Ps)).length = _
      simp only [List.length_append, List.length_cons]
      omega
    rw [hl, f_w, h2, if_neg hx0, if_pos hs, hi]
    unfold fP
    cases mt (x :: P') tx a0 (e0 - a0) with
    | some c => rfl
    | none =>
      show fR L tx a0 e0 (P'.length + ((unw (Q :: Ps)).length + 1)) (sp + 1) q = fP tx a0 (e0 - a0) (Q :: Ps) (q + 1)
      rw [fR_in (fun y hy => hx y (List.mem_cons_of_mem _ hy)) h3 (by omega) (by rw [Nat.add_sub_cancel, h2]; exact hx0)]
      have e : sp + 1 + P'.length = sp + (x :: P').length := by simp only [List.length_cons]; omega
      rw [e, f_w, h4, if_pos rfl]
      exact fR_P hae hnb (fun R hR => hb R (List.mem_cons_of_mem _ hR)) (by simp) h5 (Or.inr (by rw [Nat.add_sub_cancel]; exact h4))
