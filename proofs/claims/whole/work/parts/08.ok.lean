def okS (S : PS) : Prop := (∀ j, S.1 j < 1024) ∧ (∀ j, S.2.1 j < 10 ^ 14) ∧ (∀ j, S.2.2.1 j < 16) ∧ S.2.2.2.2.2.1 < 14 ∧ S.2.2.2.2.2.2.2.1 ≤ 1 ∧ S.2.2.2.2.2.2.2.2.1 < 64 ∧ S.2.2.2.2.2.2.2.2.2.1 < 64 ∧ S.2.2.2.2.2.2.2.2.2.2.1 ≤ 1 ∧ S.2.2.2.2.2.2.2.2.2.2.2 ≤ 3
theorem uN_lt {f : Nat → Nat} {k x B : Nat} (h : ∀ j, f j < B) (hx : x < B) : ∀ j, uN f k x j < B := fun j => by
  unfold uN; split
  · exact hx
  · exact h j
theorem cpN_lt {f : Nat → Nat} {a b B : Nat} (h : ∀ j, f j < B) : ∀ j, cpN f a b j < B := uN_lt h (h a)
theorem shC_lt {f : Nat → Nat} {kc B : Nat} (h : ∀ j, f j < B) : ∀ j, shC f kc j < B := fun j => by
  unfold shC; split
  · exact uN_lt h (h 1) j
  · exact uN_lt (uN_lt h (h 1)) (uN_lt h (h 1) 2) j
  · exact h j
theorem hSt_le (g : Nat) (st : Int32) : hSt g st ≤ 1 := by unfold hSt; split <;> omega
theorem rc_le (l : Nat) (z : Int) : rc l z ≤ 1 := by unfold rc; split <;> omega
theorem fL0 (g : Nat) : fL g 0 = 10 := by
  unfold fL fHi fLo
  simp
theorem ok_pl {op g : Nat} {S : PS} (h : okS S) : okS (plS op g S) := by
  obtain ⟨me, nu, ro, un, li, pt, st, cy, pl, bk, en, kc⟩ := S
  obtain ⟨h1, h2, h3, h4, h5, h6, h7, h8, h9⟩ := h
  dsimp only at h1 h2 h3 h4 h5 h6 h7 h8 h9
  have h0 := h3 0
  unfold plS
  dsimp only
  split
  all_goals try (refine ⟨h1, ?_, h3, ?_, ?_, ?_, ?_, ?_, ?_⟩ <;> dsimp only <;> first | assumption | omega | exact Nat.mod_lt _ (by decide) | exact hSt_le _ _ | (split <;> omega) | exact cpN_lt (cpN_lt (cpN_lt h2)) | exact cpN_lt (cpN_lt (cpN_lt (cpN_lt h2))) | exact uN_lt (cpN_lt h2) (h2 2) | exact wr_lt h2 (fU_pos _ _) (fUL h4) (by rw [fL0]; exact Nat.mod_lt _ (by decide)))
  split
  · refine ⟨h1, h2, h3, ?_, ?_, ?_, ?_, ?_, ?_⟩ <;> dsimp only <;> omega
  · refine ⟨h1, h2, shC_lt h3, ?_, ?_, ?_, ?_, ?_, ?_⟩ <;> dsimp only <;> omega
theorem pr_lt {u l n : Nat} (h : 0 < l) : pr u l n < l := Nat.mod_lt _ h
theorem ok_fwN {op u l : Nat} {n : Nat → Nat} (hn : ∀ j, n j < 10 ^ 14) (hu : 0 < u) (hl : 0 < l) (hg : u * l ∣ 10 ^ 14) : ∀ j, fwN op u l n j < 10 ^ 14 := by
  have hd : ∀ a : Nat, a < l → a / 10 < l := fun a h => Nat.lt_of_le_of_lt (Nat.div_le_self _ _) h
  unfold fwN
  split <;> first | exact hn | exact wr_lt hn hu hg hl | exact wr_lt hn hu hg (pr_lt hl) | exact wr_lt hn hu hg (rz_lt hl) | exact wr_lt hn hu hg (Nat.mod_lt _ hl) | exact wr_lt hn hu hg (hd _ (pr_lt hl)) | exact wr_lt (wr_lt hn hu hg (pr_lt hl)) hu hg (pr_lt hl)
theorem ok_fwC (op u l : Nat) (n : Nat → Nat) : fwC op u l n ≤ 1 := by
  unfold fwC
  split <;> first | exact rc_le _ _ | (split <;> omega) | omega
theorem ok_dw {wd : Nat} {S : PS} (h : okS S) : okS (dwS wd S) := by
  obtain ⟨me, nu, ro, un, li, pt, st, cy, pl, bk, en, kc⟩ := S
  obtain ⟨h1, h2, h3, h4, h5, h6, h7, h8, h9⟩ := h
  dsimp only at h1 h2 h3 h4 h5 h6 h7 h8 h9
  unfold dwS
  dsimp only
  split
  · refine ok_pl ⟨h1, h2, h3, ?_, ?_, ?_, ?_, ?_, ?_⟩ <;> dsimp only <;> omega
  · refine ⟨h1, h2, h3, ?_, ?_, ?_, ?_, ?_, ?_⟩ <;> dsimp only <;> omega
  · refine ⟨h1, ok_fwN h2 (fU_pos _ _) (fL_pos _ _) (fUL h4), h3, ?_, ?_, ?_, ?_, ?_, ?_⟩ <;> dsimp only <;> first | omega | exact ok_fwC _ _ _ _
  · refine ⟨h1, h2, h3, ?_, ?_, ?_, ?_, ?_, ?_⟩ <;> dsimp only <;> first | omega | (split <;> omega)
-- up to n words
def rnS : Nat → PS → Nat × PS
  | 0, S => (0, S)
  | n + 1, S => if S.2.2.2.2.2.2.2.2.2.2.1 = 0 then ((rnS n (dwS (S.1 S.2.2.2.2.2.2.2.2.1) S)).1 + 1, (rnS n (dwS (S.1 S.2.2.2.2.2.2.2.2.1) S)).2) else (0, S)
theorem ok_rn : ∀ {n : Nat} {S : PS}, okS S → okS (rnS n S).2
  | 0, _, h => h
  | n + 1, S, h => by
    unfold rnS
    split
    · exact ok_rn (ok_dw h)
    · exact h
def ldM (co : Nat → Nat) (n : Nat) (me : Nat → Nat) (i : Nat) : Nat → Nat := fun j => if j < i then (if j < n then co j else 0) else me j
theorem ldM_step {co me : Nat → Nat} {n i : Nat} : uN (ldM co n me i) i (if i < n then co i else 0) = ldM co n me (i + 1) := by
  funext j
  unfold uN ldM
  by_cases h : j = i
  · subst h
    rw [if_pos rfl, if_pos (show j < j + 1 by omega)]
  · rw [if_neg h]
    by_cases h2 : j < i
    · rw [if_pos h2, if_pos (show j < i + 1 by omega)]
    · rw [if_neg h2, if_neg (show ¬ j < i + 1 by omega)]
theorem rn_0 (S : PS) : rnS 0 S = (0, S) := rfl
theorem rn_s {n : Nat} {S : PS} (h : S.2.2.2.2.2.2.2.2.2.2.1 = 0) : rnS (n + 1) S = ((rnS n (dwS (S.1 S.2.2.2.2.2.2.2.2.1) S)).1 + 1, (rnS n (dwS (S.1 S.2.2.2.2.2.2.2.2.1) S)).2) := if_pos h
theorem rn_e {n : Nat} {S : PS} (h : ¬ S.2.2.2.2.2.2.2.2.2.2.1 = 0) : rnS (n + 1) S = (0, S) := if_neg h
