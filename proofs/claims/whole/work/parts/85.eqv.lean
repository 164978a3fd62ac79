def plain (A : List Nat) : Prop := ∀ x ∈ A, ¬ x = 78 ∧ ¬ x = 70 ∧ ¬ x = 76
theorem cA_p : ∀ op, op < 16 → ∀ x ∈ cA op, ¬ x = 78 ∧ ¬ x = 70 ∧ ¬ x = 76 := by decide +kernel
theorem sA_p : ∀ op, op < 32 → ∀ x ∈ sA op, ¬ x = 78 ∧ ¬ x = 70 ∧ ¬ x = 76 := by decide +kernel
theorem c_n : ∀ op, op < 16 → cB op = none → naO op = none ∧ ctN op = pk (cA op) 0 ∧ cA op ≠ [] ∧ (∀ x ∈ cA op, 0 < x ∧ x < 256) ∧ (cA op).length ≤ 6 := by decide +kernel
theorem c_s : ∀ op, op < 16 → ∀ B ∈ cB op, naO op = some (cA op).length ∧ ctN op = pk (cA op ++ 35 :: B) 0 ∧ (∀ x ∈ cA op ++ 35 :: B, 0 < x ∧ x < 256) ∧ (cA op ++ 35 :: B).length ≤ 6 ∧ ∀ x ∈ B, ¬ x = 78 ∧ ¬ x = 70 ∧ ¬ x = 76 := by decide +kernel
theorem s_n : ∀ op, op < 32 → smN op = pk (sA op) 0 ∧ sA op ≠ [] ∧ (∀ x ∈ sA op, 0 < x ∧ x < 256) ∧ (sA op).length ≤ 6 := by decide +kernel
theorem pmP_pl {A : List Nat} {tx : Nat → Nat} {j ch : Nat} (hp : ∀ x ∈ A, ¬ x = 78 ∧ ¬ x = 70 ∧ ¬ x = 76) (h : eqP A tx j) : pmP A tx j ch = some ch := by
  have := pmP_y (R := []) (ch := ch) hp h
  rw [List.append_nil] at this
  exact this
theorem pmP_pn {A : List Nat} {tx : Nat → Nat} {j ch : Nat} (hp : ∀ x ∈ A, ¬ x = 78 ∧ ¬ x = 70 ∧ ¬ x = 76) (h : ¬ eqP A tx j) : pmP A tx j ch = none := by
  have := pmP_n (R := []) (ch := ch) hp h
  rw [List.append_nil] at this
  exact this
theorem dl_pl {tx : Nat → Nat} {a0 i : Nat} {az : Option Nat} {A : List Nat} (h : ∀ k, i ≤ k → k < i + A.length → ¬ az = some k) : dl tx a0 az A.length i = A ↔ eqP A tx (a0 + i) := by
  have := dl_eq (tx := tx) (a0 := a0) (az := az) (Z := []) (r := 0) h
  rw [List.append_nil, Nat.add_zero] at this
  rw [this]
  exact ⟨fun z => z.1, fun z => ⟨z, rfl⟩⟩
theorem mo_step {tx : Nat → Nat} {a0 e0 r op : Nat} (hop : op < 16) (hae : a0 < e0) (ht : ∀ j, a0 ≤ j → j < e0 → 0 < tx j ∧ tx j < 256) : moR tx a0 e0 (r + 1) op = (match mt (cP op) tx a0 (e0 - a0) with
    | some c => some (64 * c + 4 * op)
    | none => moR tx a0 e0 r (op + 1)) := by
  have hA := cA_p op hop
  obtain ⟨n, hn⟩ : ∃ n, e0 - a0 = n := ⟨_, rfl⟩
  rw [mo_w, hn]
  cases hB : cB op with
  | none =>
    obtain ⟨h1, h2, h3, h4, h5⟩ := c_n op hop hB
    have hP : cP op = cA op := by unfold cP; rw [hB]; exact List.append_nil _
    rw [h1, hP, h2]
    dsimp only
    unfold mt
    by_cases hl : n = (cA op).length
    · rw [if_pos hl]
      have hi : nm tx a0 e0 none = pk (cA op) 0 ↔ eqP (cA op) tx a0 := (nm_iff (az := none) hae ht h3 h4 h5).trans (by rw [hn, hl]; exact dl_pl (fun k _ _ z => by cases z))
      by_cases hq : eqP (cA op) tx a0
      · rw [if_pos (hi.mpr hq), pmP_pl hA hq]
      · rw [if_neg (fun z => hq (hi.mp z)), pmP_pn hA hq]
    · rw [if_neg hl, if_neg]
      intro z
      have := (nm_iff hae ht h3 h4 h5).mp z
      apply hl
      rw [← hn, ← this, dl_len]
  | some B =>
    obtain ⟨h1, h2, h4, h5, h6⟩ := c_s op hop B (by rw [hB]; rfl)
    have hP : cP op = cA op ++ 78 :: B := by unfold cP; rw [hB]
    rw [h1, hP, h2]
    dsimp only
    have hlen : (cA op ++ 78 :: B).length = (cA op).length + (B.length + 1) := by rw [List.length_append, List.length_cons]
    have hlen2 : (cA op ++ 35 :: B).length = (cA op).length + (B.length + 1) := by rw [List.length_append, List.length_cons]
    unfold mt
    by_cases hl : n = (cA op ++ 78 :: B).length
    · rw [if_pos hl, if_neg (by omega)]
      have hi := (nm_iff (az := some (cA op).length) (Q := cA op ++ 35 :: B) hae ht (by simp) h4 h5)
      rw [hn, hl, hlen, dl_eq (fun k _ h9 z => by cases z; omega)] at hi
      have e1 : dl tx a0 (some (cA op).length) (B.length + 1) (0 + (cA op).length) = 35 :: B ↔ eqP B tx (a0 + (cA op).length + 1) := by
        show (if some (cA op).length = some (0 + (cA op).length) then 35 else tx (a0 + (0 + (cA op).length))) :: dl tx a0 (some (cA op).length) B.length (0 + (cA op).length + 1) = 35 :: B ↔ _
        rw [Nat.zero_add, if_pos rfl, List.cons.injEq, dl_pl (fun k h8 _ z => by cases z; omega)]
        simp [Nat.add_assoc]
      rw [e1] at hi
      by_cases hq : eqP (cA op) tx a0
      · rw [pmP_y hA hq, pmP_c, if_pos rfl]
        by_cases hq2 : eqP B tx (a0 + (cA op).length + 1)
        · rw [if_pos (hi.mpr ⟨hq, hq2⟩)]
          cases ixO (zS 4) (tx (a0 + (cA op).length)) 0 with
          | none => rfl
          | some c =>
            dsimp only
            rw [pmP_pl h6 hq2]
        · rw [if_neg (fun z => hq2 (hi.mp z).2)]
          cases ixO (zS 4) (tx (a0 + (cA op).length)) 0 with
          | none => rfl
          | some c =>
            dsimp only
            rw [pmP_pn h6 hq2]
      · rw [if_neg (fun z => hq (hi.mp z).1), pmP_n hA hq]
    · rw [if_neg hl]
      have hne : ¬ nm tx a0 e0 (some (cA op).length) = pk (cA op ++ 35 :: B) 0 := by
        intro z
        have := (nm_iff hae ht (by simp) h4 h5).mp z
        apply hl
        rw [← hn, hlen, ← hlen2, ← this, dl_len]
      rw [if_neg hne]
      split <;> rfl
def gR (F : Nat → List Nat) (tx : Nat → Nat) (a0 n : Nat) : Nat → Nat → Option (Nat × Nat)
  | 0, _ => none
  | r + 1, op => match mt (F op) tx a0 n with
    | some c => some (op, c)
    | none => gR F tx a0 n r (op + 1)
theorem fP_g {F : Nat → List Nat} {tx : Nat → Nat} {a0 n : Nat} : ∀ {r op : Nat}, fP tx a0 n ((List.range' op r).map F) op = gR F tx a0 n r op
  | 0, op => rfl
  | r + 1, op => by
    rw [List.range'_succ, List.map_cons]
    unfold fP gR
    cases mt (F op) tx a0 n with
    | some c => rfl
    | none => exact fP_g
theorem mo_g {tx : Nat → Nat} {a0 e0 : Nat} (hae : a0 < e0) (ht : ∀ j, a0 ≤ j → j < e0 → 0 < tx j ∧ tx j < 256) : ∀ {r op : Nat}, op + r = 16 → moR tx a0 e0 r op = (gR cP tx a0 (e0 - a0) r op).map (fun z => z.2 * 64 + z.1 * 4)
  | 0, op, _ => rfl
  | r + 1, op, h => by
    rw [mo_step (by omega) hae ht]
    unfold gR
    cases mt (cP op) tx a0 (e0 - a0) with
    | some c =>
      show some (64 * c + 4 * op) = some (c * 64 + op * 4)
      rw [Nat.mul_comm 64, Nat.mul_comm 4]
    | none => exact mo_g hae ht (by omega)
theorem s_mt {tx : Nat → Nat} {a0 e0 op : Nat} (hop : op < 32) (hae : a0 < e0) (ht : ∀ j, a0 ≤ j → j < e0 → 0 < tx j ∧ tx j < 256) : mt (sP op) tx a0 (e0 - a0) = (if e0 - a0 < 3 ∨ ¬ tx (e0 - 2) = 46 then none else match ixO (zS 5) (tx (e0 - 1)) 0 with
    | some f => if nm tx a0 (e0 - 2) none = smN op then some f else none
    | none => none) := by
  obtain ⟨h2, h3, h4, h5⟩ := s_n op hop
  have hA := sA_p op hop
  have h0 : 0 < (sA op).length := List.length_pos_iff.mpr h3
  have hlen : (sP op).length = (sA op).length + 2 := by unfold sP; rw [List.length_append]; rfl
  unfold mt
  by_cases hl : e0 - a0 = (sP op).length
  · rw [if_pos hl]
    unfold sP
    have hi : nm tx a0 (e0 - 2) none = pk (sA op) 0 ↔ eqP (sA op) tx a0 := (nm_iff (az := none) (e0 := e0 - 2) (by omega) (fun j a b => ht j a (by omega)) h3 h4 h5).trans (by rw [show e0 - 2 - a0 = (sA op).length by omega]; exact dl_pl (fun k _ _ z => by cases z))
    rw [h2]
    by_cases hq : eqP (sA op) tx a0
    · rw [pmP_y hA hq, pmP_c, if_neg (by decide), if_neg (by decide), if_neg (by decide), show a0 + (sA op).length = e0 - 2 by omega]
      by_cases h46 : tx (e0 - 2) = 46
      · rw [if_pos h46.symm, if_neg (by omega), pmP_c, if_neg (by decide), if_pos rfl, show e0 - 2 + 1 = e0 - 1 by omega]
        cases ixO (zS 5) (tx (e0 - 1)) 0 with
        | none => rfl
        | some f =>
          show some f = (if nm tx a0 (e0 - 2) none = pk (sA op) 0 then some f else none)
          rw [if_pos (hi.mpr hq)]
      · rw [if_neg (fun z => h46 z.symm), if_pos (Or.inr h46)]
    · rw [pmP_n hA hq]
      split
      · rfl
      · cases ixO (zS 5) (tx (e0 - 1)) 0 with
        | none => rfl
        | some f =>
          show none = (if nm tx a0 (e0 - 2) none = pk (sA op) 0 then some f else none)
          rw [if_neg (fun z => hq (hi.mp z))]
  · rw [if_neg hl]
    by_cases h3' : e0 - a0 < 3
    · rw [if_pos (Or.inl h3')]
    · split
      · rfl
      · cases ixO (zS 5) (tx (e0 - 1)) 0 with
        | none => rfl
        | some f =>
          show none = (if nm tx a0 (e0 - 2) none = smN op then some f else none)
          rw [if_neg]
          intro z
          rw [h2] at z
          have := (nm_iff (by omega) (fun j a b => ht j a (by omega)) h3 h4 h5).mp z
          apply hl
          rw [hlen, ← this, dl_len]
          omega
theorem mf_g {tx : Nat → Nat} {a0 e0 : Nat} (hae : a0 < e0) (ht : ∀ j, a0 ≤ j → j < e0 → 0 < tx j ∧ tx j < 256) : ∀ {r op : Nat}, op + r = 32 → (if e0 - a0 < 3 ∨ ¬ tx (e0 - 2) = 46 then none else match ixO (zS 5) (tx (e0 - 1)) 0 with
    | some f => mfR (nm tx a0 (e0 - 2) none) f r op
    | none => none) = (gR sP tx a0 (e0 - a0) r op).map (fun z => z.1 * 32 + z.2 * 4 + 2)
  | 0, op, _ => by
    split
    · rfl
    · cases ixO (zS 5) (tx (e0 - 1)) 0 <;> rfl
  | r + 1, op, h => by
    have ih := mf_g hae ht (r := r) (op := op + 1) (by omega)
    unfold gR
    rw [s_mt (by omega) hae ht]
    by_cases hc : e0 - a0 < 3 ∨ ¬ tx (e0 - 2) = 46
    · rw [if_pos hc, if_pos hc]
      rw [if_pos hc] at ih
      exact ih
    · rw [if_neg hc, if_neg hc]
      rw [if_neg hc] at ih
      cases hf : ixO (zS 5) (tx (e0 - 1)) 0 with
      | none =>
        rw [hf] at ih
        exact ih
      | some f =>
        rw [hf] at ih
        dsimp only at ih ⊢
        rw [mf_w]
        by_cases hv : nm tx a0 (e0 - 2) none = smN op
        · rw [if_pos hv, if_pos hv]
          show some (32 * op + 4 * f + 2) = some (op * 32 + f * 4 + 2)
          rw [Nat.mul_comm 32, Nat.mul_comm 4]
        · rw [if_neg hv, if_neg hv]
          exact ih
-- the class's word of a name is the reference's, but for the two that go
theorem f2_g {tx : Nat → Nat} {a0 e0 : Nat} (hae : a0 < e0) (hnb : ∀ j, a0 ≤ j → j < e0 → ¬ tx j = 32) : fN 2 tx a0 e0 = gR cP tx a0 (e0 - a0) 16 0 := by
  unfold fN
  rw [zS2, fR_P hae hnb cP_ok (by decide) (by rfl) (Or.inl rfl), fP_g]
theorem f3_g {tx : Nat → Nat} {a0 e0 : Nat} (hae : a0 < e0) (hnb : ∀ j, a0 ≤ j → j < e0 → ¬ tx j = 32) : fN 3 tx a0 e0 = gR sP tx a0 (e0 - a0) 32 0 := by
  unfold fN
  rw [zS3, fR_P hae hnb sP_ok (by decide) (by rfl) (Or.inl rfl), fP_g]
theorem wM_g {tx : Nat → Nat} {a0 e0 : Nat} (hae : a0 < e0) (hnb : ∀ j, a0 ≤ j → j < e0 → ¬ tx j = 32) (ht : ∀ j, a0 ≤ j → j < e0 → 0 < tx j ∧ tx j < 256) : wM_ tx a0 e0 = (match fN 2 tx a0 e0 with
    | some (q, c) => some (c * 64 + q * 4)
    | none => match fN 3 tx a0 e0 with
      | some (q, c) => some (q * 32 + c * 4 + 2)
      | none => none) := by
  unfold wM_
  rw [f2_g hae hnb, f3_g hae hnb, mo_g hae ht (by rfl)]
  have h := mf_g hae ht (r := 32) (op := 0) (by rfl)
  cases gR cP tx a0 (e0 - a0) 16 0 with
  | some z => rfl
  | none =>
    show (if e0 - a0 < 3 ∨ ¬ tx (e0 - 2) = 46 then none else match ixO (zS 5) (tx (e0 - 1)) 0 with
      | some f => mfR (nm tx a0 (e0 - 2) none) f 32 0
      | none => none) = _
    rw [h]
    cases gR sP tx a0 (e0 - a0) 32 0 <;> rfl
