-- the two assemblers, name by name
theorem mt_l {tx : Nat → Nat} {a0 e0 x : Nat} (h78 : ¬ x = 78) (h70 : ¬ x = 70) (h76 : ¬ x = 76) (ht : tx (a0 + 1) < 128) : mt [x, 76] tx a0 (e0 - a0) = (if x = tx a0 then lM tx a0 e0 else none) := by
  unfold mt lM
  rw [show ([x, 76] : List Nat).length = 2 from rfl]
  by_cases hn : e0 - a0 = 2
  · rw [if_pos hn, pmP_c, if_neg h78, if_neg h70, if_neg h76]
    by_cases hx : x = tx a0
    · rw [if_pos hx, if_pos hx, pmP_c, if_neg (by decide), if_neg (by decide), if_pos rfl, lt_all _ ht]
      by_cases hc : 97 ≤ tx (a0 + 1) ∧ tx (a0 + 1) ≤ 122
      · rw [if_pos hc, if_pos ⟨hn, hc⟩]
        rfl
      · rw [if_neg hc, if_neg (fun z => hc z.2)]
    · rw [if_neg hx, if_neg hx]
  · rw [if_neg hn]
    split
    · rw [if_neg (fun z => hn z.1)]
    · rfl
theorem f0_l {tx : Nat → Nat} {a0 e0 : Nat} (hae : a0 < e0) (hnb : ∀ j, a0 ≤ j → j < e0 → ¬ tx j = 32) (ht : tx (a0 + 1) < 128) : fN 0 tx a0 e0 = (if 58 = tx a0 then (lM tx a0 e0).map (fun c => (0, c)) else none) := by
  unfold fN
  rw [zS0, fR_P hae hnb (by decide) (by decide) (by rfl) (Or.inl rfl)]
  unfold fP
  rw [mt_l (by decide) (by decide) (by decide) ht]
  by_cases h1 : 58 = tx a0
  · rw [if_pos h1, if_pos h1]
    cases lM tx a0 e0 <;> rfl
  · rw [if_neg h1, if_neg h1]
    rfl
theorem f1_l {tx : Nat → Nat} {a0 e0 : Nat} (hae : a0 < e0) (hnb : ∀ j, a0 ≤ j → j < e0 → ¬ tx j = 32) (ht : tx (a0 + 1) < 128) : fN 1 tx a0 e0 = (if 64 = tx a0 then (lM tx a0 e0).map (fun c => (0, c)) else if 62 = tx a0 then (lM tx a0 e0).map (fun c => (1, c)) else none) := by
  unfold fN
  rw [zS1, fR_P hae hnb (by decide) (by decide) (by rfl) (Or.inl rfl)]
  unfold fP fP fP
  rw [mt_l (by decide) (by decide) (by decide) ht, mt_l (by decide) (by decide) (by decide) ht]
  by_cases h1 : 64 = tx a0
  · rw [if_pos h1, if_pos h1, if_neg (by omega)]
    cases lM tx a0 e0 <;> rfl
  · rw [if_neg h1, if_neg h1]
    dsimp only
    by_cases h2 : 62 = tx a0
    · rw [if_pos h2, if_pos h2]
      cases lM tx a0 e0 <;> rfl
    · rw [if_neg h2, if_neg h2]
theorem gR_0 {F : Nat → List Nat} {tx : Nat → Nat} {a0 n N : Nat} (h : ∀ op, op < N → mt (F op) tx a0 n = none) : ∀ {r op : Nat}, op + r = N → gR F tx a0 n r op = none
  | 0, op, _ => rfl
  | r + 1, op, e => by
    unfold gR
    rw [h op (by omega)]
    exact gR_0 h (by omega)
theorem cP_h : ∀ op, op < 16 → ¬ (cP op).headD 0 = 78 ∧ ¬ (cP op).headD 0 = 70 ∧ ¬ (cP op).headD 0 = 76 ∧ ¬ (cP op).headD 0 = 62 ∧ ¬ (cP op).headD 0 = 64 ∧ cP op ≠ [] := by decide +kernel
theorem wM_go {tx : Nat → Nat} {a0 e0 : Nat} (hn : e0 - a0 = 2) (hg : tx a0 = 62 ∨ tx a0 = 64) (ht : ∀ j, a0 ≤ j → j < e0 → 0 < tx j ∧ tx j < 256) : wM_ tx a0 e0 = none := by
  unfold wM_
  rw [mo_g (by omega) ht (by rfl), gR_0 (N := 16) (fun op hop => ?_) (by rfl)]
  · simp only [Option.map_none]
    rw [if_pos (Or.inl (by omega))]
  · obtain ⟨h1, h2, h3, h4, h5, h6⟩ := cP_h op hop
    obtain ⟨x, P, e⟩ := List.exists_cons_of_ne_nil h6
    rw [e] at h1 h2 h3 h4 h5 ⊢
    simp only [List.headD_cons] at h1 h2 h3 h4 h5
    unfold mt
    split
    · rw [pmP_c, if_neg h1, if_neg h2, if_neg h3, if_neg]
      intro z
      rw [← z] at hg
      rcases hg with hg | hg
      · exact h4 hg
      · exact h5 hg
    · rfl
theorem wM_ev {tx : Nat → Nat} {a0 e0 m : Nat} (hae : a0 < e0) (hnb : ∀ j, a0 ≤ j → j < e0 → ¬ tx j = 32) (ht : ∀ j, a0 ≤ j → j < e0 → 0 < tx j ∧ tx j < 256) (h : wM_ tx a0 e0 = some m) : m % 2 = 0 := by
  rw [wM_g hae hnb ht] at h
  split at h
  · cases h
    omega
  · split at h
    · cases h
      omega
    · cases h
theorem wN_M {tx : Nat → Nat} {a0 e0 : Nat} (hae : a0 < e0) (hnb : ∀ j, a0 ≤ j → j < e0 → ¬ tx j = 32) (ht : ∀ j, a0 ≤ j → j < e0 → 0 < tx j ∧ tx j < 256) : wN tx a0 e0 = (match wM_ tx a0 e0 with
    | some m => some m
    | none => match fN 1 tx a0 e0 with
      | some (q, c) => some (c * 4 + q * 2 + 1)
      | none => none) := by
  unfold wN
  rw [wM_g hae hnb ht]
  cases fN 2 tx a0 e0 with
  | some z => rfl
  | none =>
    cases fN 3 tx a0 e0 with
    | some z => rfl
    | none => rfl
def smT (tx : Nat → Nat) (T : AS) (M : AMs) : Prop := T.2.1 = M.2.1 ∧ (∀ j, j < 26 → (T.1 j = (-1) ∧ M.1 j = (-1)) ∨ ∃ t, t ≤ 64 ∧ T.1 j = nI (t % 64) ∧ M.1 j = nI t) ∧
  (∀ i, i < T.2.1 → (M.2.2.2 i = (-1) ∧ M.2.2.1 i = T.2.2.1 i ∧ T.2.2.1 i % 2 = 0) ∨ (∃ a, a < 239 ∧ M.2.2.2 i = nI a ∧ T.2.2.2 i = a ∧ 97 ≤ tx (a + 1) ∧ tx (a + 1) ≤ 122 ∧ M.2.2.1 i < 4 ∧ M.2.2.1 i % 2 = 1 ∧ T.2.2.1 i = 4 * (tx (a + 1) - 97) + M.2.2.1 i))
theorem smT_p {tx : Nat → Nat} {lb lb' wn : Nat → Int32} {ct m m' a0 : Nat} {wo bg md : Nat → Nat} {b : Int32} (h : smT tx (lb, ct, wo, bg) (lb', ct, md, wn)) (hn : (b = (-1) ∧ m' = m ∧ m % 2 = 0) ∨ (a0 < 239 ∧ b = nI a0 ∧ 97 ≤ tx (a0 + 1) ∧ tx (a0 + 1) ≤ 122 ∧ m' < 4 ∧ m' % 2 = 1 ∧ m = 4 * (tx (a0 + 1) - 97) + m')) : smT tx (lb, ct + 1, uN wo ct m, uN bg ct a0) (lb', ct + 1, uN md ct m', upd wn ct b) := by
  obtain ⟨h1, h2, h3⟩ := h
  refine ⟨rfl, h2, fun i hi => ?_⟩
  dsimp only at hi h3 ⊢
  unfold uN upd
  by_cases hz : i = ct
  · rw [if_pos hz, if_pos hz, if_pos hz, if_pos hz]
    rcases hn with ⟨e1, e2, e3⟩ | ⟨e1, e2, e3, e4, e5, e6, e7⟩
    · exact Or.inl ⟨e1, e2, e3⟩
    · exact Or.inr ⟨a0, e1, e2, rfl, e3, e4, e5, e6, e7⟩
  · rw [if_neg hz, if_neg hz, if_neg hz, if_neg hz]
    exact h3 i (by omega)
theorem pu_tw {tx : Nat → Nat} {lb lb' wn : Nat → Int32} {ct m m' a0 : Nat} {wo bg md : Nat → Nat} {b : Int32} (hct : ct ≤ 64) (h : smT tx (lb, ct, wo, bg) (lb', ct, md, wn)) (hn : (b = (-1) ∧ m' = m ∧ m % 2 = 0) ∨ (a0 < 239 ∧ b = nI a0 ∧ 97 ≤ tx (a0 + 1) ∧ tx (a0 + 1) ≤ 122 ∧ m' < 4 ∧ m' % 2 = 1 ∧ m = 4 * (tx (a0 + 1) - 97) + m')) :
    ((if ct < 64 then some (lb, ct + 1, uN wo ct m, uN bg ct a0) else none : Option AS) = none ∧ puM (lb', ct, md, wn) m' b = none) ∨ ∃ T' M', (if ct < 64 then some (lb, ct + 1, uN wo ct m, uN bg ct a0) else none : Option AS) = some T' ∧ puM (lb', ct, md, wn) m' b = some M' ∧ smT tx T' M' := by
  unfold puM
  dsimp only
  by_cases hz : ct < 64
  · rw [if_pos hz, if_neg (by omega)]
    exact Or.inr ⟨_, _, rfl, rfl, smT_p h hn⟩
  · rw [if_neg hz, if_pos (by omega)]
    exact Or.inl ⟨rfl, rfl⟩
theorem sm_t {tx : Nat → Nat} {a0 e0 : Nat} {T : AS} {M : AMs} (hae : a0 < e0) (he : e0 ≤ 240) (hnb : ∀ j, a0 ≤ j → j < e0 → ¬ tx j = 32) (ht : ∀ j, a0 ≤ j → j < e0 → 0 < tx j ∧ tx j < 256) (htx : ∀ j, tx j < 127) (hct : T.2.1 ≤ 64) (h : smT tx T M) : (tN tx a0 e0 T = none ∧ tM tx a0 e0 M = none) ∨ ∃ T' M', tN tx a0 e0 T = some T' ∧ tM tx a0 e0 M = some M' ∧ smT tx T' M' := by
  obtain ⟨lb, ct, wo, bg⟩ := T
  obtain ⟨lb', ct', md, wn⟩ := M
  have h0 := h
  obtain ⟨h1, h2, h3⟩ := h0
  dsimp only at h1 hct
  subst h1
  have ht1 : tx (a0 + 1) < 128 := by have := htx (a0 + 1); omega
  have hwd : (¬ tx a0 = 58 ∨ lM tx a0 e0 = none) → ((¬ tx a0 = 62 ∧ ¬ tx a0 = 64) ∨ lM tx a0 e0 = none) → tM tx a0 e0 (lb', ct, md, wn) = wdM tx a0 e0 (lb', ct, md, wn) → (tN tx a0 e0 (lb, ct, wo, bg) = none ∧ tM tx a0 e0 (lb', ct, md, wn) = none) ∨ ∃ T' M', tN tx a0 e0 (lb, ct, wo, bg) = some T' ∧ tM tx a0 e0 (lb', ct, md, wn) = some M' ∧ smT tx T' M' := by
    intro hA hB hM
    have e0' : fN 0 tx a0 e0 = none := by
      rw [f0_l hae hnb ht1]
      split
      · rcases hA with hA | hA
        · omega
        · rw [hA]; rfl
      · rfl
    have e1' : fN 1 tx a0 e0 = none := by
      rw [f1_l hae hnb ht1]
      rcases hB with ⟨hB1, hB2⟩ | hB
      · rw [if_neg (by omega), if_neg (by omega)]
      · rw [hB]
        split
        · rfl
        · split <;> rfl
    rw [hM]
    unfold tN wdM
    dsimp only
    rw [e0', wN_M hae hnb ht, e1']
    dsimp only
    cases hw : wM_ tx a0 e0 with
    | none => exact Or.inl ⟨rfl, rfl⟩
    | some m => exact pu_tw hct h (Or.inl ⟨rfl, rfl, wM_ev hae hnb ht hw⟩)
  cases hl : lM tx a0 e0 with
  | none => exact hwd (Or.inr hl) (Or.inr hl) (by unfold tM; rw [hl])
  | some j =>
    have hc : e0 - a0 = 2 ∧ 97 ≤ tx (a0 + 1) ∧ tx (a0 + 1) ≤ 122 := by
      unfold lM at hl
      split at hl
      · assumption
      · cases hl
    have hj : j = tx (a0 + 1) - 97 := by
      rw [lM_y hc] at hl
      exact (Option.some.inj hl).symm
    by_cases h58 : tx a0 = 58
    · have e0' : fN 0 tx a0 e0 = some (0, j) := by rw [f0_l hae hnb ht1, if_pos h58.symm, hl]; rfl
      unfold tN tM
      dsimp only
      rw [e0', hl]
      dsimp only
      rw [if_pos h58]
      rcases h2 j (by omega) with ⟨g1, g2⟩ | ⟨t, g0, g1, g2⟩
      · dsimp only at g1 g2
        rw [if_pos g1, if_pos (by rw [g2]; decide)]
        refine Or.inr ⟨_, _, rfl, rfl, rfl, fun i hi => ?_, h3⟩
        dsimp only
        unfold upd
        by_cases hz : i = j
        · rw [if_pos hz, if_pos hz]
          exact Or.inr ⟨ct, hct, rfl, rfl⟩
        · rw [if_neg hz, if_neg hz]
          exact h2 i hi
      · dsimp only at g1 g2
        rw [if_neg (fun z => zm1 (n := t % 64) (by omega) (g1.symm.trans z)), if_neg (by rw [g2]; exact nI_pos (by omega))]
        exact Or.inl ⟨rfl, rfl⟩
    · by_cases h62 : tx a0 = 62 ∨ tx a0 = 64
      · have e0' : fN 0 tx a0 e0 = none := by rw [f0_l hae hnb ht1, if_neg (by omega)]
        have ew := wM_go hc.1 h62 ht
        have hN : wN tx a0 e0 = some (4 * j + (if tx a0 = 62 then 3 else 1)) := by
          rw [wN_M hae hnb ht, ew, f1_l hae hnb ht1, hl]
          rcases h62 with h62 | h62
          · rw [if_neg (by omega), if_pos h62.symm, if_pos h62]
            show some (j * 4 + 1 * 2 + 1) = some (4 * j + 3)
            congr 1
            omega
          · rw [if_pos h62.symm, if_neg (by omega)]
            show some (j * 4 + 0 * 2 + 1) = some (4 * j + 1)
            congr 1
            omega
        have hM : tM tx a0 e0 (lb', ct, md, wn) = puM (lb', ct, md, wn) (if tx a0 = 62 then 3 else 1) (nI a0) := by
          unfold tM
          rw [hl]
          dsimp only
          rw [if_neg h58]
          rcases h62 with h62 | h62
          · rw [if_pos h62, if_pos h62]
          · rw [if_neg (by omega), if_pos h62, if_neg (by omega)]
        rw [hM]
        unfold tN
        dsimp only
        rw [e0', hN]
        dsimp only
        refine pu_tw hct h (Or.inr ⟨by omega, rfl, hc.2.1, hc.2.2, by split <;> omega, by split <;> rfl, by rw [hj]⟩)
      · exact hwd (Or.inl h58) (Or.inl ⟨fun z => h62 (Or.inl z), fun z => h62 (Or.inr z)⟩) (by unfold tM; rw [hl]; dsimp only; rw [if_neg h58, if_neg (fun z => h62 (Or.inl z)), if_neg (fun z => h62 (Or.inr z))])
