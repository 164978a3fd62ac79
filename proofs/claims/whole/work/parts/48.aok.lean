abbrev AS : Type := (Nat → Int32) × Nat × (Nat → Nat) × (Nat → Nat)
-- how many blanks lie from sp on, r places
def bl (L : List Nat) : Nat → Nat → Nat
  | 0, _ => 0
  | r + 1, sp => (if L.getD sp 0 = 32 then 1 else 0) + bl L r (sp + 1)
theorem fR_q {L : List Nat} {tx : Nat → Nat} {a0 e0 : Nat} : ∀ {r sp q q1 c : Nat}, fR L tx a0 e0 r sp q = some (q1, c) → q1 ≤ q + bl L r sp
  | 0, sp, q, q1, c, h => by cases h
  | r + 1, sp, q, q1, c, h => by
    rw [f_w] at h
    unfold bl
    split at h
    · have := fR_q h
      rename_i h1
      rw [if_pos h1]
      omega
    · rename_i h1
      rw [if_neg h1]
      split at h
      · split at h
        · cases h
          omega
        · have := fR_q h
          omega
      · have := fR_q h
        omega
theorem pm_b {L : List Nat} {sp a0 B : Nat} {tx : Nat → Nat} (h4 : (∀ j, ¬ L.getD j 0 = 78) ∨ 16 ≤ B) (h5 : (∀ j, ¬ L.getD j 0 = 70) ∨ 8 ≤ B) (h6 : (∀ j, ¬ L.getD j 0 = 76) ∨ 26 ≤ B) : ∀ {r j ch c : Nat}, ch < B → pmR L sp a0 tx r j ch = some c → c < B
  | 0, j, ch, c, hb, h => by cases h; exact hb
  | r + 1, j, ch, c, hb, h => by
    rw [pm_w] at h
    split at h
    · rename_i h1
      rcases h4 with h4 | h4
      · exact absurd h1 (h4 _)
      · split at h
        · rename_i c1 hc
          have := ixO_lt hc
          have e : (zS 4).length = 16 := by decide +kernel
          exact pm_b (Or.inr h4) h5 h6 (by omega) h
        · cases h
    · split at h
      · rename_i h1
        rcases h5 with h5 | h5
        · exact absurd h1 (h5 _)
        · split at h
          · rename_i c1 hc
            have := ixO_lt hc
            have e : (zS 5).length = 8 := by decide +kernel
            exact pm_b h4 (Or.inr h5) h6 (by omega) h
          · cases h
      · split at h
        · rename_i h1
          rcases h6 with h6 | h6
          · exact absurd h1 (h6 _)
          · split at h
            · rename_i c1 hc
              have := ixO_lt hc
              have e : (zS 6).length = 26 := by decide +kernel
              exact pm_b h4 h5 (Or.inr h6) (by omega) h
            · cases h
        · split at h
          · exact pm_b h4 h5 h6 hb h
          · cases h
theorem fR_b {L : List Nat} {tx : Nat → Nat} {a0 e0 B : Nat} (h0 : 0 < B) (h4 : (∀ j, ¬ L.getD j 0 = 78) ∨ 16 ≤ B) (h5 : (∀ j, ¬ L.getD j 0 = 70) ∨ 8 ≤ B) (h6 : (∀ j, ¬ L.getD j 0 = 76) ∨ 26 ≤ B) : ∀ {r sp q q1 c : Nat}, fR L tx a0 e0 r sp q = some (q1, c) → c < B
  | 0, sp, q, q1, c, h => by cases h
  | r + 1, sp, q, q1, c, h => by
    rw [f_w] at h
    split at h
    · exact fR_b h0 h4 h5 h6 h
    · split at h
      · split at h
        · rename_i c1 hc
          cases h
          unfold isN at hc
          split at hc
          · cases hc
          · exact pm_b h4 h5 h6 h0 hc
        · exact fR_b h0 h4 h5 h6 h
      · exact fR_b h0 h4 h5 h6 h
theorem no_c {L : List Nat} {x : Nat} (hx : x ≠ 0) (h : ∀ a ∈ L, ¬ a = x) : ∀ j, ¬ L.getD j 0 = x := fun j e => by
  by_cases hj : j < L.length
  · rw [List.getD_eq_getElem?_getD, List.getElem?_eq_getElem hj] at e
    exact h _ (List.getElem_mem hj) e
  · rw [List.getD_eq_getElem?_getD, List.getElem?_eq_none (by omega)] at e
    exact hx e.symm
theorem f_2 {tx : Nat → Nat} {a0 e0 q c : Nat} (h : fN 2 tx a0 e0 = some (q, c)) : q < 16 ∧ c < 16 := by
  have h1 := fR_q h
  have h2 : bl (zS 2) (zS 2).length 0 = 15 := by decide +kernel
  exact ⟨by omega, fR_b (by decide) (Or.inr (by decide)) (Or.inl (no_c (by decide) (by decide +kernel))) (Or.inl (no_c (by decide) (by decide +kernel))) h⟩
theorem f_3 {tx : Nat → Nat} {a0 e0 q c : Nat} (h : fN 3 tx a0 e0 = some (q, c)) : q < 32 ∧ c < 8 := by
  have h1 := fR_q h
  have h2 : bl (zS 3) (zS 3).length 0 = 31 := by decide +kernel
  exact ⟨by omega, fR_b (by decide) (Or.inl (no_c (by decide) (by decide +kernel))) (Or.inr (by decide)) (Or.inl (no_c (by decide) (by decide +kernel))) h⟩
theorem f_1 {tx : Nat → Nat} {a0 e0 q c : Nat} (h : fN 1 tx a0 e0 = some (q, c)) : q < 2 ∧ c < 26 := by
  have h1 := fR_q h
  have h2 : bl (zS 1) (zS 1).length 0 = 1 := by decide +kernel
  exact ⟨by omega, fR_b (by decide) (Or.inr (by decide)) (Or.inr (by decide)) (Or.inr (by decide)) h⟩
theorem wN_b {tx : Nat → Nat} {a0 e0 m : Nat} (h : wN tx a0 e0 = some m) : m < 1024 ∧ (m % 2 = 1 → m / 4 < 26) := by
  unfold wN at h
  split at h
  · rename_i q c hf
    have := f_2 hf
    cases h
    omega
  · split at h
    · rename_i q c hf
      have := f_3 hf
      cases h
      omega
    · split at h
      · rename_i q c hf
        have := f_1 hf
        cases h
        omega
      · cases h
def tN (tx : Nat → Nat) (a0 e0 : Nat) (T : AS) : Option AS := match T with
  | (lb, ct, wo, bg) => match fN 0 tx a0 e0 with
    | some (_, c) => if lb c = (-1) then some (upd lb c (nI (ct % 64)), ct, wo, bg) else none
    | none => match wN tx a0 e0 with
      | some m => if ct < 64 then some (lb, ct + 1, uN wo ct m, uN bg ct a0) else none
      | none => none
def okT (T : AS) : Prop := T.2.1 ≤ 64 ∧ (∀ j, j < T.2.1 → T.2.2.1 j % 2 = 1 → T.2.2.1 j / 4 < 26) ∧ (∀ j, T.2.2.1 j < 1024) ∧ (∀ j, j < 26 → (T.1 j = (-1) ∨ ∃ t, t < 64 ∧ T.1 j = nI t)) ∧ (∀ j, T.2.2.2 j < 240)
theorem okT_t {tx : Nat → Nat} {a0 e0 : Nat} {T T' : AS} (ha : a0 < 240) (h : okT T) (e : tN tx a0 e0 T = some T') : okT T' := by
  obtain ⟨lb, ct, wo, bg⟩ := T
  obtain ⟨h1, h2, h3, h4, h5⟩ := h
  dsimp only at h1 h2 h3 h4 h5
  unfold tN at e
  dsimp only at e
  split at e
  · split at e
    · cases e
      refine ⟨h1, h2, h3, fun j hj => ?_, h5⟩
      dsimp only
      unfold upd
      split
      · exact Or.inr ⟨ct % 64, Nat.mod_lt _ (by decide), rfl⟩
      · exact h4 j hj
    · cases e
  · split at e
    · rename_i m hm
      have hb := wN_b hm
      split at e
      · cases e
        refine ⟨by dsimp only; omega, fun j hj => ?_, uN_lt h3 hb.1, h4, uN_lt h5 ha⟩
        dsimp only at hj ⊢
        unfold uN
        split
        · exact hb.2
        · exact h2 j (by omega)
      · cases e
    · cases e
def tR (tx : Nat → Nat) (ln : Nat) : Nat → Nat → AS → Int32 × AS
  | 0, _, T => ((-1), T)
  | r + 1, a, T => if ¬ tx a = 32 ∧ (a = 0 ∨ tx (a - 1) = 32) then (match tN tx a (eN tx ln (ln - a) a) T with
      | some T' => tR tx ln r (a + 1) T'
      | none => (nI a, T)) else tR tx ln r (a + 1) T
theorem t_0 {tx : Nat → Nat} {ln a : Nat} {T : AS} : tR tx ln 0 a T = ((-1), T) := rfl
theorem t_w {tx : Nat → Nat} {ln r a : Nat} {T : AS} : tR tx ln (r + 1) a T = (if ¬ tx a = 32 ∧ (a = 0 ∨ tx (a - 1) = 32) then (match tN tx a (eN tx ln (ln - a) a) T with
      | some T' => tR tx ln r (a + 1) T'
      | none => (nI a, T)) else tR tx ln r (a + 1) T) := rfl
theorem l_0 {lb : Nat → Int32} {bg wo : Nat → Nat} {i : Nat} : fl_ lb bg 0 i wo = ((-1), wo) := rfl
theorem l_w {lb : Nat → Int32} {bg wo : Nat → Nat} {r i : Nat} : fl_ lb bg (r + 1) i wo = (if wo i % 2 = 0 then fl_ lb bg r (i + 1) wo else if lb (wo i / 4) = (-1) then (nI (bg i), wo) else fl_ lb bg r (i + 1) (uN wo i ((lb (wo i / 4)).toNatClampNeg * 4 + wo i % 4))) := rfl
def okW (i ct : Nat) (wo : Nat → Nat) : Prop := (∀ j, i ≤ j → j < ct → wo j % 2 = 1 → wo j / 4 < 26) ∧ ∀ j, wo j < 1024
theorem okW_s {i ct : Nat} {wo : Nat → Nat} (h : okW i ct wo) : okW (i + 1) ct wo := ⟨fun j h1 => h.1 j (by omega), h.2⟩
theorem okW_u {i ct t : Nat} {wo : Nat → Nat} (h : okW i ct wo) (ht : t < 64) : okW (i + 1) ct (uN wo i (t * 4 + wo i % 4)) := by
  refine ⟨fun j h1 h2 => ?_, uN_lt h.2 (by omega)⟩
  unfold uN
  rw [if_neg (by omega)]
  exact h.1 j (by omega) h2
theorem okT_0 {lb : Nat → Int32} {wo bg : Nat → Nat} (hw : ∀ j, wo j < 1024) (hb : ∀ j, bg j < 240) : okT (fil lb (-1) 26, 0, wo, bg) :=
  ⟨Nat.zero_le _, fun j h => absurd h (Nat.not_lt_zero _), hw, fun j hj => Or.inl (if_pos hj), hb⟩
-- the whole of a text: where it is ill, and what is left
def asm (tx : Nat → Nat) (ln : Nat) (lb : Nat → Int32) (wo bg : Nat → Nat) : Int32 × AS := match tR tx ln ln 0 (fil lb (-1) 26, 0, wo, bg) with
  | (ia, lb1, ct, wo1, bg1) => if ia = (-1) then ((fl_ lb1 bg1 ct 0 wo1).1, lb1, ct, (fl_ lb1 bg1 ct 0 wo1).2, bg1) else (ia, lb1, ct, wo1, bg1)
theorem asm_a {tx : Nat → Nat} {ln : Nat} {lb : Nat → Int32} {wo bg : Nat → Nat} {T : AS} (h : tR tx ln ln 0 (fil lb (-1) 26, 0, wo, bg) = ((-1), T)) : asm tx ln lb wo bg = ((fl_ T.1 T.2.2.2 T.2.1 0 T.2.2.1).1, T.1, T.2.1, (fl_ T.1 T.2.2.2 T.2.1 0 T.2.2.1).2, T.2.2.2) := by
  unfold asm
  rw [h]
  rfl
theorem asm_b {tx : Nat → Nat} {ln b : Nat} {lb : Nat → Int32} {wo bg : Nat → Nat} {T : AS} (hb : b < 240) (h : tR tx ln ln 0 (fil lb (-1) 26, 0, wo, bg) = (nI b, T)) : asm tx ln lb wo bg = (nI b, T) := by
  unfold asm
  rw [h]
  exact if_neg (fun z => zm1 (by omega) z)
