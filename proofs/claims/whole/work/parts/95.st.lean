theorem zK_start {args : Array Value} {s : State} (hts : ∀ w ∈ zT, w.before args s = true) : ∃ (D : va_G) (ca : Nat → ClassId), va_K D vCl (zty ca) s := by
  obtain ⟨c0, i0, h0⟩ := u_known hts inAs (hts _ (q27))
  obtain ⟨c1, i1, h1⟩ := u_known hts inPr (hts _ (q75))
  obtain ⟨c2, i2, h2⟩ := u_known hts inRe (hts _ (q81))
  obtain ⟨c3, i3, h3⟩ := u_known hts inWa (hts _ (q101))
  obtain ⟨c4, i4, h4⟩ := u_known hts inCh (hts _ (q19))
  obtain ⟨c5, i5, h5⟩ := u_known hts inMo (hts (.instantiable "DigitChipModel" 21) (zT_in (by decide +kernel) rfl))
  have arr : ∀ ty : FieldType, (ty = .int ∨ ty = .long ∨ ty = .char) → Cond.arrayClass ty ∈ zT → ∃ cA : ClassId, ArrOfT s cA ty ∧ va_RA s cA ty := by
    intro ty hty hw
    obtain ⟨cA, kA, comp, g1, g2, g3⟩ := Cond.arrayClass_spec (hts _ hw)
    refine ⟨cA, fun n z => ⟨fun k h => (by cases h), kA, g2, comp, g3⟩, ?_⟩
    rcases hty with rfl | rfl | rfl <;> exact g1
  obtain ⟨a0, g0⟩ := arr .int (Or.inl rfl) q73
  obtain ⟨a1, g1⟩ := arr .long (Or.inr (Or.inl rfl)) q99
  obtain ⟨a2, g2⟩ := arr .char (Or.inr (Or.inr rfl)) q71
  refine ⟨(fun c => match c with | 0 => c0 | 1 => c1 | 2 => c2 | 3 => c3 | 4 => c4 | _ => c5, fun c => match c with | 0 => i0 | 1 => i1 | 2 => i2 | 3 => i3 | 4 => i4 | _ => i5), fun i => match i with | 0 => a0 | 1 => a1 | _ => a2, fun c q hq => ?_, fun k q hq => ?_⟩
  · match c, hq with
    | 0, hq => cases hq; exact h0
    | 1, hq => cases hq; exact h1
    | 2, hq => cases hq; exact h2
    | 3, hq => cases hq; exact h3
    | 4, hq => cases hq; exact h4
    | 5, hq => cases hq; exact h5
    | c + 6, hq => simp at hq
  · match k, hq with
    | 0, hq => cases hq; exact g0
    | 1, hq => cases hq; exact g1
    | 2, hq => cases hq; exact g2
    | k + 3, hq => simp [zty] at hq
theorem lw_0 {po : Nat → Nat} (hpo : ∀ j, j < 15 → po j = 10 ^ j) : lwI z0 0 z0 z0 z0 z0 z0 z0 1 1 0 0 0 (nI 0) 0 0 0 0 po := by
  have h : ∀ {n : Nat}, 0 < n → ∀ j, z0 j < n := fun h j => h
  refine ⟨⟨h (by decide), h (by decide), h (by decide), ?_, ?_, ?_, ?_, ?_, ?_⟩, ⟨h (by decide), h (by decide), h (by decide), ?_, ?_, ?_, ?_, ?_, ?_⟩, fun j _ => rfl, by omega, h (by decide), fun j hj => absurd hj (Nat.not_lt_zero _), h (by decide), h (by decide), hpo⟩ <;> dsimp only <;> omega
