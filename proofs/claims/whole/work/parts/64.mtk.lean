-- the reference's assembler: labels, count, words made, labels wanted
abbrev AMs : Type := (Nat → Int32) × Nat × (Nat → Nat) × (Nat → Int32)
def lM (tx : Nat → Nat) (a0 e0 : Nat) : Option Nat := if e0 - a0 = 2 ∧ 97 ≤ tx (a0 + 1) ∧ tx (a0 + 1) ≤ 122 then some (tx (a0 + 1) - 97) else none
def puM (T : AMs) (m : Nat) (b : Int32) : Option AMs := if T.2.1 = 64 then none else some (T.1, T.2.1 + 1, uN T.2.2.1 T.2.1 m, upd T.2.2.2 T.2.1 b)
def wdM (tx : Nat → Nat) (a0 e0 : Nat) (T : AMs) : Option AMs := match wM_ tx a0 e0 with
  | some m => puM T m (-1)
  | none => none
def tM (tx : Nat → Nat) (a0 e0 : Nat) (T : AMs) : Option AMs := match lM tx a0 e0 with
  | some j => if tx a0 = 58 then (if T.1 j < 0 then some (upd T.1 j (nI T.2.1), T.2) else none)
    else if tx a0 = 62 then puM T 3 (nI a0) else if tx a0 = 64 then puM T 1 (nI a0) else wdM tx a0 e0 T
  | none => wdM tx a0 e0 T
theorem lM_y {tx : Nat → Nat} {a0 e0 : Nat} (h : e0 - a0 = 2 ∧ 97 ≤ tx (a0 + 1) ∧ tx (a0 + 1) ≤ 122) : lM tx a0 e0 = some (tx (a0 + 1) - 97) := if_pos h
theorem lM_n {tx : Nat → Nat} {a0 e0 : Nat} (h : ¬ (e0 - a0 = 2 ∧ 97 ≤ tx (a0 + 1) ∧ tx (a0 + 1) ≤ 122)) : lM tx a0 e0 = none := if_neg h
def reM (tx : Nat → Nat) (tn : Nat) : Nat → Nat → AMs → Int32 × AMs
  | 0, _, T => ((-1), T)
  | r + 1, a0, T => if tn ≤ a0 then ((-1), T) else if a0 < eN tx tn (tn - a0) a0 then (match tM tx a0 (eN tx tn (tn - a0) a0) T with
      | some T' => reM tx tn r (eN tx tn (tn - a0) a0) T'
      | none => (nI a0, T)) else reM tx tn r (a0 + 1) T
theorem re_e {tx : Nat → Nat} {tn r a0 : Nat} {T : AMs} (h : tn ≤ a0) : reM tx tn r a0 T = ((-1), T) := by
  cases r with
  | zero => rfl
  | succ r => exact if_pos h
theorem re_w {tx : Nat → Nat} {tn r a0 : Nat} {T : AMs} : reM tx tn (r + 1) a0 T = (if tn ≤ a0 then ((-1), T) else if a0 < eN tx tn (tn - a0) a0 then (match tM tx a0 (eN tx tn (tn - a0) a0) T with
      | some T' => reM tx tn r (eN tx tn (tn - a0) a0) T'
      | none => (nI a0, T)) else reM tx tn r (a0 + 1) T) := rfl
def rfM (tx : Nat → Nat) (lb wn : Nat → Int32) : Nat → Nat → (Nat → Nat) → Int32 × (Nat → Nat)
  | 0, _, md => ((-1), md)
  | r + 1, i, md => if wn i = (-1) then rfM tx lb wn r (i + 1) md else if lb (tx ((wn i).toNatClampNeg + 1) - 97) = (-1) then (wn i, md) else rfM tx lb wn r (i + 1) (uN md i (md i + 4 * ((lb (tx ((wn i).toNatClampNeg + 1) - 97)).toNatClampNeg % 64)))
theorem rf_0 {tx : Nat → Nat} {lb wn : Nat → Int32} {i : Nat} {md : Nat → Nat} : rfM tx lb wn 0 i md = ((-1), md) := rfl
theorem rf_w {tx : Nat → Nat} {lb wn : Nat → Int32} {r i : Nat} {md : Nat → Nat} : rfM tx lb wn (r + 1) i md = (if wn i = (-1) then rfM tx lb wn r (i + 1) md else if lb (tx ((wn i).toNatClampNeg + 1) - 97) = (-1) then (wn i, md) else rfM tx lb wn r (i + 1) (uN md i (md i + 4 * ((lb (tx ((wn i).toNatClampNeg + 1) - 97)).toNatClampNeg % 64)))) := rfl
def okM (tx : Nat → Nat) (T : AMs) : Prop := T.2.1 ≤ 64 ∧ (∀ j, j < 26 → (T.1 j = (-1) ∨ ∃ t, t ≤ 64 ∧ T.1 j = nI t)) ∧ (∀ j, j < T.2.1 → (T.2.2.2 j = (-1) ∨ ∃ a, a < 239 ∧ T.2.2.2 j = nI a ∧ 97 ≤ tx (a + 1) ∧ tx (a + 1) ≤ 122))
theorem okM_p {tx : Nat → Nat} {T T' : AMs} {m : Nat} {b : Int32} (h : okM tx T) (hb : b = (-1) ∨ ∃ a, a < 239 ∧ b = nI a ∧ 97 ≤ tx (a + 1) ∧ tx (a + 1) ≤ 122) (e : puM T m b = some T') : okM tx T' := by
  unfold puM at e
  split at e
  · cases e
  · cases e
    obtain ⟨h1, h2, h3⟩ := h
    refine ⟨by dsimp only; omega, h2, fun j hj => ?_⟩
    dsimp only at hj ⊢
    unfold upd
    by_cases hz : j = T.2.1
    · rw [if_pos hz]
      exact hb
    · rw [if_neg hz]
      exact h3 j (by omega)
theorem okM_t {tx : Nat → Nat} {a0 e0 : Nat} {T T' : AMs} (he : e0 ≤ 240) (h : okM tx T) (e : tM tx a0 e0 T = some T') : okM tx T' := by
  have hw : wdM tx a0 e0 T = some T' → okM tx T' := fun e => by
    unfold wdM at e
    split at e
    · exact okM_p h (Or.inl rfl) e
    · cases e
  unfold tM at e
  split at e
  · rename_i j hj
    unfold lM at hj
    split at hj
    · rename_i hc
      cases hj
      split at e
      · split at e
        · cases e
          obtain ⟨h1, h2, h3⟩ := h
          refine ⟨h1, fun j hj => ?_, h3⟩
          dsimp only
          unfold upd
          split
          · exact Or.inr ⟨_, h1, rfl⟩
          · exact h2 j hj
        · cases e
      · split at e
        · exact okM_p h (Or.inr ⟨a0, by omega, rfl, hc.2.1, hc.2.2⟩) e
        · split at e
          · exact okM_p h (Or.inr ⟨a0, by omega, rfl, hc.2.1, hc.2.2⟩) e
          · exact hw e
    · cases hj
  · exact hw e
theorem okM_0 {tx : Nat → Nat} {lb wn : Nat → Int32} {md : Nat → Nat} : okM tx (fil lb (-1) 26, 0, md, wn) :=
  ⟨Nat.zero_le _, fun j hj => Or.inl (if_pos hj), fun j h => absurd h (Nat.not_lt_zero _)⟩
-- the whole of a text
def asM (tx : Nat → Nat) (tn : Nat) (lb : Nat → Int32) (md : Nat → Nat) (wn : Nat → Int32) : Int32 × AMs := match reM tx tn tn 0 (fil lb (-1) 26, 0, md, wn) with
  | (ia, lb1, ct, md1, wn1) => if ia = (-1) then ((rfM tx lb1 wn1 ct 0 md1).1, lb1, ct, (rfM tx lb1 wn1 ct 0 md1).2, wn1) else (ia, lb1, ct, md1, wn1)
theorem asM_a {tx : Nat → Nat} {tn : Nat} {lb wn : Nat → Int32} {md : Nat → Nat} {T : AMs} (h : reM tx tn tn 0 (fil lb (-1) 26, 0, md, wn) = ((-1), T)) : asM tx tn lb md wn = ((rfM tx T.1 T.2.2.2 T.2.1 0 T.2.2.1).1, T.1, T.2.1, (rfM tx T.1 T.2.2.2 T.2.1 0 T.2.2.1).2, T.2.2.2) := by
  unfold asM
  rw [h]
  exact if_pos rfl
theorem asM_b {tx : Nat → Nat} {tn b : Nat} {lb wn : Nat → Int32} {md : Nat → Nat} {T : AMs} (hb : b < 240) (h : reM tx tn tn 0 (fil lb (-1) 26, 0, md, wn) = (nI b, T)) : asM tx tn lb md wn = (nI b, T) := by
  unfold asM
  rw [h]
  exact if_neg (fun z => zm1 (by omega) z)
theorem ldM_0 {co me : Nat → Nat} {n : Nat} : ldM co n me 0 = me := by
  funext j
  exact if_neg (Nat.not_lt_zero _)
